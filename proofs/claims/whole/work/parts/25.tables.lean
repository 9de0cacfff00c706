/-! tables of moves, the history -/
theorem PosA.off {h : qH} {m j : Nat} {b : Nat → Nat} {x : qE} (p : PosA h m b) (h1 : j ≠ m) (h2 : j ≠ m + 1) : PosA (h.set j x) m b := by
  obtain ⟨⟨f1, f2, f3, f4, h0⟩, h3⟩ := p
  exact ⟨⟨f1, f2, f3, f4, (q_gso h1).trans h0⟩, (q_gso h2).trans h3⟩
theorem PosF.off {h : qH} {m j : Nat} {P : qP} {x : qE} (p : PosF h m P) (h1 : j ≠ m) (h2 : j ≠ m + 1) : PosF (h.set j x) m P := ⟨(q_gso h1).trans p.1, (q_gso h2).trans p.2⟩
def TabA (h : qH) (k : Nat) (T : Nat → Int32) : Prop := h[k]? = some (.inr (2, [.ref (k + 1)])) ∧ h[k + 1]? = some (.inl (0, 25, .inl T))
def fil (g T : Nat → Int32) (n : Nat) : Nat → Int32 := fun i => if i < n then g i else T i
theorem fil_0 (g T : Nat → Int32) : fil g T 0 = T := by funext i; simp [fil]
theorem fil_s (g T : Nat → Int32) (n : Nat) : upd (fil g T n) n (g n) = fil g T (n + 1) := by
  funext i
  by_cases h : i = n
  · subst h; simp [upd, fil]
  · by_cases h2 : i < n
    · have : i < n + 1 := by omega
      simp [upd, fil, h, h2, this]
    · have : ¬ i < n + 1 := by omega
      simp [upd, fil, h, h2, this]
set_option maxHeartbeats 4000000 in
set_option maxRecDepth 100000 in
theorem okX2_fillWithMoves {h : qH} {k m : Nat} {T : Nat → Int32} {b : Nat → Nat} (ht : TabA h k T) (hp : PosA h m b) (hb : ∀ i, b i < 8) (hk1 : k + 1 ≠ m) (hk2 : k + 1 ≠ m + 1) : Ok MX2_fillWithMoves [.ref k, .ref m] (h) (none) (h.set (k + 1) (.inl (0, 25, .inl (fil (fun i => mask (movP b i)) T 25)))) := by
  refine ok_of (by decide +kernel) (Nat.zero_le _) (Nat.le_of_ble_eq_true rfl) ?_
  intro X C E
  show Ex X MX2_fillWithMoves 0 [(0, .ref k), (1, .ref m)] [] (h)
  obtain ⟨h0, h1⟩ := ht
  have L : ∀ n i : Nat, i + n = 25 → Ex X MX2_fillWithMoves 2 [(0, .ref k), (1, .ref m), (2, .int (nI i))] [] (h.set (k + 1) (.inl (0, 25, .inl (fil (fun i => mask (movP b i)) T i)))) := by
    intro n
    induction n with
    | zero =>
      intro i hin 
      have e : i = 25 := by omega
      subst e
      refine x_iload_n C dX2_fillWithMoves_2 rfl ?_
      refine x_bipush C (v := nI 25) dX2_fillWithMoves_3 (by decide +kernel) ?_
      refine x_icmp_geN C 25 dX2_fillWithMoves_5 (by decide) (by omega) (by omega) (fun c5 => ?_) (fun c5 => ?_)
      · exact x_vret E dX2_fillWithMoves_25 rfl rfl rfl
      · exact absurd c5 (by omega)
    | succ n ih =>
      intro i hin 
      have hlt : i < 25 := by omega
      refine x_iload_n C dX2_fillWithMoves_2 rfl ?_
      refine x_bipush C (v := nI 25) dX2_fillWithMoves_3 (by decide +kernel) ?_
      refine x_icmp_geN C 25 dX2_fillWithMoves_5 (by decide) (by omega) (by omega) (fun c5 => ?_) (fun c5 => ?_)
      · exact absurd c5 (by omega)
      · refine x_aload_n C dX2_fillWithMoves_8 rfl ?_
        refine x_getfield C qk2 0 (by decide) lfX2_9 dX2_fillWithMoves_9 ((q_gso (by omega)).trans h0) rfl ?_
        refine x_iload_n C dX2_fillWithMoves_12 rfl ?_
        refine x_aload_n C dX2_fillWithMoves_13 rfl ?_
        refine x_iload_n C dX2_fillWithMoves_14 rfl ?_
        refine x_callV1i C (okX3_movesFrom (hp.off hk1 hk2) hb hlt) lkX2_15 miX3_movesFrom msX3_movesFrom maX3_movesFrom ⟨Nat.le_of_ble_eq_true rfl, Nat.le_of_ble_eq_true rfl⟩ (Nat.le_of_ble_eq_true rfl) (hp.off hk1 hk2).1.choose_spec.choose_spec.choose_spec.choose_spec rfl dX2_fillWithMoves_15 ?_
        refine x_iast C dX2_fillWithMoves_18 (q_gss h1) (by omega) (by decide) ?_
        rw [List.set_set, show upd (fil (fun i => mask (movP b i)) T i) i (mask (movP b i)) = fil (fun i => mask (movP b i)) T (i + 1) from fil_s (fun i => mask (movP b i)) T i]
        refine x_iinc C _ dX2_fillWithMoves_19 rfl (q_inc _) (by decide) [(2, _), (0, _), (1, _)] rfl ?_
        refine x_goto C 2 dX2_fillWithMoves_22 (by decide) ?_
        exact x_sub [1, 2, 0] (ih (i + 1) (by omega)) rfl
  refine x_iconst C (v := nI 0) dX2_fillWithMoves_0 (by decide +kernel) ?_
  refine x_istore_n C dX2_fillWithMoves_1 (by decide) [(2, _), (0, _), (1, _)] rfl ?_
  have L0 := L 25 0 (by omega)
  rw [fil_0, q_same h1] at L0
  exact x_sub [1, 2, 0] L0 rfl
set_option maxHeartbeats 4000000 in
set_option maxRecDepth 100000 in
theorem okX2_fillWithKeys {h : qH} {k m : Nat} {T : Nat → Int32} {b : Nat → Nat} (ht : TabA h k T) (hp : PosA h m b) (hb : ∀ i, b i < 8) (hk1 : k + 1 ≠ m) (hk2 : k + 1 ≠ m + 1) : Ok MX2_fillWithKeys [.ref k, .ref m] (h) (none) (h.set (k + 1) (.inl (0, 25, .inl (fil (fun i => mask (keyP b i)) T 25)))) := by
  refine ok_of (by decide +kernel) (Nat.zero_le _) (Nat.le_of_ble_eq_true rfl) ?_
  intro X C E
  show Ex X MX2_fillWithKeys 0 [(0, .ref k), (1, .ref m)] [] (h)
  obtain ⟨h0, h1⟩ := ht
  have L : ∀ n i : Nat, i + n = 25 → Ex X MX2_fillWithKeys 2 [(0, .ref k), (1, .ref m), (2, .int (nI i))] [] (h.set (k + 1) (.inl (0, 25, .inl (fil (fun i => mask (keyP b i)) T i)))) := by
    intro n
    induction n with
    | zero =>
      intro i hin 
      have e : i = 25 := by omega
      subst e
      refine x_iload_n C dX2_fillWithKeys_2 rfl ?_
      refine x_bipush C (v := nI 25) dX2_fillWithKeys_3 (by decide +kernel) ?_
      refine x_icmp_geN C 25 dX2_fillWithKeys_5 (by decide) (by omega) (by omega) (fun c5 => ?_) (fun c5 => ?_)
      · exact x_vret E dX2_fillWithKeys_25 rfl rfl rfl
      · exact absurd c5 (by omega)
    | succ n ih =>
      intro i hin 
      have hlt : i < 25 := by omega
      refine x_iload_n C dX2_fillWithKeys_2 rfl ?_
      refine x_bipush C (v := nI 25) dX2_fillWithKeys_3 (by decide +kernel) ?_
      refine x_icmp_geN C 25 dX2_fillWithKeys_5 (by decide) (by omega) (by omega) (fun c5 => ?_) (fun c5 => ?_)
      · exact absurd c5 (by omega)
      · refine x_aload_n C dX2_fillWithKeys_8 rfl ?_
        refine x_getfield C qk2 0 (by decide) lfX2_9 dX2_fillWithKeys_9 ((q_gso (by omega)).trans h0) rfl ?_
        refine x_iload_n C dX2_fillWithKeys_12 rfl ?_
        refine x_aload_n C dX2_fillWithKeys_13 rfl ?_
        refine x_iload_n C dX2_fillWithKeys_14 rfl ?_
        refine x_callV1i C (okX3_keysFrom (hp.off hk1 hk2) hb hlt) lkX2_21 miX3_keysFrom msX3_keysFrom maX3_keysFrom ⟨Nat.le_of_ble_eq_true rfl, Nat.le_of_ble_eq_true rfl⟩ (Nat.le_of_ble_eq_true rfl) (hp.off hk1 hk2).1.choose_spec.choose_spec.choose_spec.choose_spec rfl dX2_fillWithKeys_15 ?_
        refine x_iast C dX2_fillWithKeys_18 (q_gss h1) (by omega) (by decide) ?_
        rw [List.set_set, show upd (fil (fun i => mask (keyP b i)) T i) i (mask (keyP b i)) = fil (fun i => mask (keyP b i)) T (i + 1) from fil_s (fun i => mask (keyP b i)) T i]
        refine x_iinc C _ dX2_fillWithKeys_19 rfl (q_inc _) (by decide) [(2, _), (0, _), (1, _)] rfl ?_
        refine x_goto C 2 dX2_fillWithKeys_22 (by decide) ?_
        exact x_sub [1, 2, 0] (ih (i + 1) (by omega)) rfl
  refine x_iconst C (v := nI 0) dX2_fillWithKeys_0 (by decide +kernel) ?_
  refine x_istore_n C dX2_fillWithKeys_1 (by decide) [(2, _), (0, _), (1, _)] rfl ?_
  have L0 := L 25 0 (by omega)
  rw [fil_0, q_same h1] at L0
  exact x_sub [1, 2, 0] L0 rfl
def sumc (S : Nat → Nat → Bool) : Nat → Nat
  | 0 => 0
  | n + 1 => sumc S n + cnt (S n) 25
set_option maxHeartbeats 4000000 in
set_option maxRecDepth 100000 in
theorem okX2_count {h : qH} {k : Nat} {T : Nat → Int32} (ht : TabA h k T) (S : Nat → Nat → Bool) (hT : ∀ i, i < 25 → T i = mask (S i)) : Ok MX2_count [.ref k] (h) (some (.int (nI (sumc S 25)))) (h) := by
  refine ok_of (by decide +kernel) (Nat.zero_le _) (Nat.le_of_ble_eq_true rfl) ?_
  intro X C E
  show Ex X MX2_count 0 [(0, .ref k)] [] (h)
  obtain ⟨h0, h1⟩ := ht
  have L : ∀ n i : Nat, i + n = 25 → Ex X MX2_count 4 [(0, .ref k), (1, .int (nI (sumc S i))), (2, .int (nI i))] [] (h) := by
    intro n
    induction n with
    | zero =>
      intro i hin 
      have e : i = 25 := by omega
      subst e
      refine x_iload_n C dX2_count_4 rfl ?_
      refine x_bipush C (v := nI 25) dX2_count_5 (by decide +kernel) ?_
      refine x_icmp_geN C 28 dX2_count_7 (by decide) (by omega) (by omega) (fun c7 => ?_) (fun c7 => ?_)
      · refine x_iload_n C dX2_count_28 rfl ?_
        exact x_iret E .int dX2_count_29 rfl rfl rfl rfl
      · exact absurd c7 (by omega)
    | succ n ih =>
      intro i hin 
      have hlt : i < 25 := by omega
      refine x_iload_n C dX2_count_4 rfl ?_
      refine x_bipush C (v := nI 25) dX2_count_5 (by decide +kernel) ?_
      refine x_icmp_geN C 28 dX2_count_7 (by decide) (by omega) (by omega) (fun c7 => ?_) (fun c7 => ?_)
      · exact absurd c7 (by omega)
      · refine x_iload_n C dX2_count_10 rfl ?_
        refine x_aload_n C dX2_count_11 rfl ?_
        refine x_getfield C qk2 0 (by decide) lfX2_9 dX2_count_12 h0 rfl ?_
        refine x_iload_n C dX2_count_15 rfl ?_
        refine x_iald C dX2_count_16 h1 (by omega) (by decide) ?_
        rw [hT i hlt]
        refine x_callN1i C (okX5_bitsOf _ _) lkX2_24 miX5_bitsOf mtX5_bitsOf maX5_bitsOf ⟨Nat.le_of_ble_eq_true rfl, Nat.le_of_ble_eq_true rfl⟩ (Nat.le_of_ble_eq_true rfl) dX2_count_17 ?_
        refine x_iaddN C dX2_count_20 ?_
        refine x_istore_n C dX2_count_21 (by decide) [(1, _), (0, _), (2, _)] rfl ?_
        refine x_iinc C _ dX2_count_22 rfl (q_inc _) (by decide) [(2, _), (1, _), (0, _)] rfl ?_
        refine x_goto C 4 dX2_count_25 (by decide) ?_
        exact x_sub [2, 1, 0] (ih (i + 1) (by omega)) rfl
  refine x_iconst C (v := nI 0) dX2_count_0 (by decide +kernel) ?_
  refine x_istore_n C dX2_count_1 (by decide) [(1, _), (0, _)] rfl ?_
  refine x_iconst C (v := nI 0) dX2_count_2 (by decide +kernel) ?_
  refine x_istore_n C dX2_count_3 (by decide) [(2, _), (1, _), (0, _)] rfl ?_
  exact x_sub [2, 1, 0] (L 25 0 (by omega)) rfl
def rowL (S : Nat → Nat → Bool) (f : Nat) : Nat → Nat → List Nat
  | 0, _ => []
  | n + 1, t => if S f t = true then (100 * f + t) :: rowL S f n (t + 1) else rowL S f n (t + 1)
def allL (S : Nat → Nat → Bool) : Nat → Nat → List Nat
  | 0, _ => []
  | n + 1, f => rowL S f 25 0 ++ allL S n (f + 1)
def pk (x : Int32) : List Nat → Nat → Int32
  | [], _ => -1
  | a :: t, c => if nI c = x then nI a else pk x t (c + 1)
set_option maxHeartbeats 4000000 in
set_option maxRecDepth 100000 in
theorem okX2_pick {h : qH} {k : Nat} {T : Nat → Int32} (ht : TabA h k T) (S : Nat → Nat → Bool) (hT : ∀ i, i < 25 → T i = mask (S i)) (x : Int32) : Ok MX2_pick [.ref k, .int x] (h) (some (.int (pk x (allL S 25 0) 0))) (h) := by
  refine ok_of (by decide +kernel) (Nat.zero_le _) (Nat.le_of_ble_eq_true rfl) ?_
  intro X C E
  show Ex X MX2_pick 0 [(0, .ref k), (1, .int x)] [] (h)
  obtain ⟨h0, h1⟩ := ht
  have L : ∀ n f c : Nat, f + n = 25 → pk x (allL S 25 0) 0 = pk x (allL S n f) c → Ex X MX2_pick 4 [(0, .ref k), (1, .int x), (2, .int (nI c)), (3, .int (nI f))] [] h := by
    intro n
    induction n with
    | zero =>
      intro f c hf ht
      refine x_iload_n C dX2_pick_4 rfl ?_
      refine x_bipush C (v := nI 25) dX2_pick_5 (by decide +kernel) ?_
      refine x_icmp_geN C 62 dX2_pick_7 (by decide) (by omega) (by omega) (fun c7 => ?_) (fun c7 => ?_)
      · refine x_iconst C (v := (-1)) dX2_pick_62 (by decide +kernel) ?_
        exact x_iret E .int dX2_pick_63 rfl rfl (by rw [ht]; rfl) rfl
      · exact absurd c7 (by omega)
    | succ n ih =>
      intro f c hf ht
      have hfl : f < 25 := by omega
      have L2 : ∀ j t c : Nat, t + j = 25 → pk x (allL S 25 0) 0 = pk x (rowL S f j t ++ allL S n (f + 1)) c → Ex X MX2_pick 13 [(0, .ref k), (1, .int x), (2, .int (nI c)), (3, .int (nI f)), (4, .int (nI t))] [] h := by
        intro j
        induction j with
        | zero =>
          intro t c htj ht
          refine x_iload C dX2_pick_13 rfl ?_
          refine x_bipush C (v := nI 25) dX2_pick_15 (by decide +kernel) ?_
          refine x_icmp_geN C 56 dX2_pick_17 (by decide) (by omega) (by omega) (fun c17 => ?_) (fun c17 => ?_)
          · refine x_iinc C _ dX2_pick_56 rfl (q_inc _) (by decide) [(3, _), (0, _), (1, _), (2, _), (4, _)] rfl ?_
            refine x_goto C 4 dX2_pick_59 (by decide) ?_
            exact x_sub [1, 2, 3, 0] (ih (f + 1) c (by omega) ht) rfl
          · exact absurd c17 (by omega)
        | succ j ih2 =>
          intro t c htj ht
          have htl : t < 25 := by omega
          refine x_iload C dX2_pick_13 rfl ?_
          refine x_bipush C (v := nI 25) dX2_pick_15 (by decide +kernel) ?_
          refine x_icmp_geN C 56 dX2_pick_17 (by decide) (by omega) (by omega) (fun c17 => ?_) (fun c17 => ?_)
          · exact absurd c17 (by omega)
          · refine x_aload_n C dX2_pick_20 rfl ?_
            refine x_getfield C qk2 0 (by decide) lfX2_9 dX2_pick_21 h0 rfl ?_
            refine x_iload_n C dX2_pick_24 rfl ?_
            refine x_iald C dX2_pick_25 h1 (by omega) (by decide) ?_
            rw [hT f hfl]
            refine x_iload C dX2_pick_26 rfl ?_
            refine x_callN2i C (okX5_hasSquare _ htl _) lkX2_27 miX5_hasSquare mtX5_hasSquare maX5_hasSquare ⟨Nat.le_of_ble_eq_true rfl, Nat.le_of_ble_eq_true rfl⟩ (Nat.le_of_ble_eq_true rfl) dX2_pick_28 ?_
            refine x_if_eqB C 50 dX2_pick_31 (by decide) (fun c31 => ?_) (fun c31 => ?_)
            · rw [rowL, if_neg (by rw [c31]; decide)] at ht
              refine x_iinc C _ dX2_pick_50 rfl (q_inc _) (by decide) [(4, _), (0, _), (1, _), (2, _), (3, _)] rfl ?_
              refine x_goto C 13 dX2_pick_53 (by decide) ?_
              exact x_sub [1, 2, 3, 4, 0] (ih2 (t + 1) c (by omega) ht) rfl
            · refine x_iload_n C dX2_pick_34 rfl ?_
              refine x_iload_n C dX2_pick_35 rfl ?_
              refine x_icmp_ne C 47 dX2_pick_36 (by decide) (fun c36 => ?_) (fun c36 => ?_)
              · rw [rowL, if_pos c31, List.cons_append, pk, if_neg c36] at ht
                refine x_iinc C _ dX2_pick_47 rfl (q_inc _) (by decide) [(2, _), (0, _), (1, _), (3, _), (4, _)] rfl ?_
                refine x_iinc C _ dX2_pick_50 rfl (q_inc _) (by decide) [(4, _), (2, _), (0, _), (1, _), (3, _)] rfl ?_
                refine x_goto C 13 dX2_pick_53 (by decide) ?_
                exact x_sub [2, 3, 1, 4, 0] (ih2 (t + 1) (c + 1) (by omega) ht) rfl
              · refine x_bipush C (v := nI 100) dX2_pick_39 (by decide +kernel) ?_
                refine x_iload_n C dX2_pick_41 rfl ?_
                refine x_imulN C dX2_pick_42 ?_
                refine x_iload C dX2_pick_43 rfl ?_
                refine x_iaddN C dX2_pick_45 ?_
                exact x_iret E .int dX2_pick_46 rfl rfl (by rw [ht, rowL, if_pos c31, List.cons_append, pk, if_pos c36]) rfl
      refine x_iload_n C dX2_pick_4 rfl ?_
      refine x_bipush C (v := nI 25) dX2_pick_5 (by decide +kernel) ?_
      refine x_icmp_geN C 62 dX2_pick_7 (by decide) (by omega) (by omega) (fun c7 => ?_) (fun c7 => ?_)
      · exact absurd c7 (by omega)
      · refine x_iconst C (v := nI 0) dX2_pick_10 (by decide +kernel) ?_
        refine x_istore C dX2_pick_11 (by decide) [(4, _), (0, _), (1, _), (2, _), (3, _)] rfl ?_
        exact x_sub [1, 2, 3, 4, 0] (L2 25 0 c (by omega) ht) rfl
  refine x_iconst C (v := nI 0) dX2_pick_0 (by decide +kernel) ?_
  refine x_istore_n C dX2_pick_1 (by decide) [(2, _), (0, _), (1, _)] rfl ?_
  refine x_iconst C (v := nI 0) dX2_pick_2 (by decide +kernel) ?_
  refine x_istore_n C dX2_pick_3 (by decide) [(3, _), (2, _), (0, _), (1, _)] rfl ?_
  exact x_sub [2, 3, 1, 0] (L 25 0 0 (by omega) rfl) rfl
def qRows : Nat → Option Nat := fun j => if j < 8 then some (11 + 2 * j) else none
abbrev qHi (nx sz : Nat) : qE := .inr (0, [.ref 10, .int (nI nx), .int (nI sz)])
def HistA (h : qH) (R : Nat → qP) (nx sz : Nat) : Prop := h[9]? = some (qHi nx sz) ∧ h[10]? = some (.inl (2, 8, .inr (.inr (.inr (.inr qRows))))) ∧ ∀ j, j < 8 → PosF h (11 + 2 * j) (R j)
theorem qRows_at {j : Nat} (hj : j < 8) : va_rf (qRows (nI j).toNatClampNeg) = .ref (11 + 2 * j) := by
  rw [nI_clamp (by omega)]
  unfold qRows
  rw [if_pos hj]
  rfl
set_option maxHeartbeats 4000000 in
set_option maxRecDepth 100000 in
theorem okX0_rowAt {h : qH} {R : Nat → qP} {nx sz : Nat} (hh : HistA h R nx sz) {j : Nat} (hj : j < 8) : Ok MX0_rowAt [.ref 9, .int (nI j)] (h) (some (.ref (11 + 2 * j))) (h) := by
  refine ok_of (by decide +kernel) (Nat.zero_le _) (Nat.le_of_ble_eq_true rfl) ?_
  intro X C E
  show Ex X MX0_rowAt 0 [(0, .ref 9), (1, .int (nI j))] [] (h)
  obtain ⟨h0, h1, h2⟩ := hh
  refine x_iload_n C dX0_rowAt_0 rfl ?_
  refine x_if_ltN C 19 dX0_rowAt_1 (by decide) (by omega) ?_
  refine x_iload_n C dX0_rowAt_4 rfl ?_
  refine x_bipush C (v := nI 8) dX0_rowAt_5 (by decide +kernel) ?_
  refine x_icmp_geN C 19 dX0_rowAt_7 (by decide) (by omega) (by omega) (fun c7 => ?_) (fun c7 => ?_)
  · exact absurd c7 (by omega)
  · refine x_aload_n C dX0_rowAt_10 rfl ?_
    refine x_getfield C qk0 0 (by decide) lfX0_11 dX0_rowAt_11 h0 rfl ?_
    refine x_iload_n C dX0_rowAt_14 rfl ?_
    refine x_aaload C dX0_rowAt_15 h1 (vp_in_nI hj (by decide)) ?_
    rw [qRows_at hj]
    refine x_goto C 20 dX0_rowAt_16 (by decide) ?_
    exact x_aret E (.object "MateKeys$Position") dX0_rowAt_20 rfl (Or.inl ⟨_, rfl⟩) (Or.inr ⟨_, rfl⟩) rfl rfl
def nxt (nx : Nat) : Nat := if nx + 1 < 8 then nx + 1 else 0
def szt (sz : Nat) : Nat := if sz < 8 then sz + 1 else sz
theorem setP_9 {h : qH} {k : Nat} {P : qP} (hk : 9 < k) : (setP h k P)[9]? = h[9]? := by
  unfold setP
  rw [q_gso (by omega), q_gso (by omega)]
set_option maxHeartbeats 4000000 in
set_option maxRecDepth 100000 in
theorem okX0_push {h : qH} {R : Nat → qP} {nx sz m : Nat} {P : qP} (hh : HistA h R nx sz) (hn : nx < 8) (hsz : sz ≤ 8) (hp : PosF h m P) (hR : ∀ j, j < 8 → Bd (R j).1) (hP : Bd P.1) (hm : m + 1 < 9) : Ok MX0_push [.ref 9, .ref m] (h) (none) ((setP h (11 + 2 * nx) P).set 9 (qHi (nxt nx) (szt sz))) := by
  refine ok_of (by decide +kernel) (Nat.zero_le _) (Nat.le_of_ble_eq_true rfl) ?_
  intro X C E
  show Ex X MX0_push 0 [(0, .ref 9), (1, .ref m)] [] (h)
  obtain ⟨h0, h1, h2⟩ := id hh
  have hpr := h2 nx hn
  refine x_aload_n C dX0_push_0 rfl ?_
  refine x_aload_n C dX0_push_1 rfl ?_
  refine x_getfield C qk0 1 (by decide) lfX0_18 dX0_push_2 h0 rfl ?_
  refine x_callV1i C (okX0_rowAt hh hn) lkX0_22 miX0_rowAt msX0_rowAt maX0_rowAt ⟨Nat.le_of_ble_eq_true rfl, Nat.le_of_ble_eq_true rfl⟩ (Nat.le_of_ble_eq_true rfl) h0 rfl dX0_push_5 ?_
  refine x_astore_n C dX0_push_8 (by decide) [(2, _), (0, _), (1, _)] rfl ?_
  refine x_aload_n C dX0_push_9 rfl ?_
  refine x_ifnonnull C 14 dX0_push_10 (by decide) ?_
  refine x_aload_n C dX0_push_14 rfl ?_
  refine x_aload_n C dX0_push_15 rfl ?_
  refine x_callV1v C (okX3_copyFrom hpr hp (hR nx hn) hP (by omega) (by omega) (by omega)) lkX0_26 miX3_copyFrom msX3_copyFrom maX3_copyFrom ⟨Nat.le_of_ble_eq_true rfl, Nat.le_of_ble_eq_true rfl⟩ (Nat.le_of_ble_eq_true rfl) hpr.1 rfl dX0_push_16 ?_
  refine x_aload_n C dX0_push_19 rfl ?_
  refine x_aload_n C dX0_push_20 rfl ?_
  refine x_getfield C qk0 1 (by decide) lfX0_18 dX0_push_21 ((setP_9 (by omega)).trans h0) rfl ?_
  refine x_iconst C (v := nI 1) dX0_push_24 (by decide +kernel) ?_
  refine x_iaddN C dX0_push_25 ?_
  refine x_bipush C (v := nI 8) dX0_push_26 (by decide +kernel) ?_
  refine x_icmp_geN C 40 dX0_push_28 (by decide) (by omega) (by omega) (fun c28 => ?_) (fun c28 => ?_)
  · refine x_iconst C (v := nI 0) dX0_push_40 (by decide +kernel) ?_
    refine x_putfield C qk0 1 (by decide) lfX0_18 rfl (ty0 := .int) (by decide +kernel) rfl rfl dX0_push_41 ((setP_9 (by omega)).trans h0) (Nat.le_of_ble_eq_true rfl) ?_
    refine x_aload_n C dX0_push_44 rfl ?_
    refine x_getfield C qk0 2 (by decide) lfX0_30 dX0_push_45 (q_gss ((setP_9 (by omega)).trans h0)) rfl ?_
    refine x_bipush C (v := nI 8) dX0_push_48 (by decide +kernel) ?_
    refine x_icmp_geN C 63 dX0_push_50 (by decide) (by omega) (by omega) (fun c50 => ?_) (fun c50 => ?_)
    · exact x_vret E dX0_push_63 rfl rfl (by rw [show nxt nx = 0 by unfold nxt; rw [if_neg (by omega)]]; rw [show szt sz = sz by unfold szt; rw [if_neg (by omega)]]; rfl)
    · refine x_aload_n C dX0_push_53 rfl ?_
      refine x_dup C rfl dX0_push_54 ?_
      refine x_getfield C qk0 2 (by decide) lfX0_30 dX0_push_55 (q_gss ((setP_9 (by omega)).trans h0)) rfl ?_
      refine x_iconst C (v := nI 1) dX0_push_58 (by decide +kernel) ?_
      refine x_iaddN C dX0_push_59 ?_
      refine x_putfield C qk0 2 (by decide) lfX0_30 rfl (ty0 := .int) (by decide +kernel) rfl rfl dX0_push_60 (q_gss ((setP_9 (by omega)).trans h0)) (Nat.le_of_ble_eq_true rfl) ?_
      exact x_vret E dX0_push_63 rfl rfl (by rw [show nxt nx = 0 by unfold nxt; rw [if_neg (by omega)]]; rw [show szt sz = sz + 1 by unfold szt; rw [if_pos (by omega)]]; rw [List.set_set]; rfl)
  · refine x_aload_n C dX0_push_31 rfl ?_
    refine x_getfield C qk0 1 (by decide) lfX0_18 dX0_push_32 ((setP_9 (by omega)).trans h0) rfl ?_
    refine x_iconst C (v := nI 1) dX0_push_35 (by decide +kernel) ?_
    refine x_iaddN C dX0_push_36 ?_
    refine x_goto C 41 dX0_push_37 (by decide) ?_
    refine x_putfield C qk0 1 (by decide) lfX0_18 rfl (ty0 := .int) (by decide +kernel) rfl rfl dX0_push_41 ((setP_9 (by omega)).trans h0) (Nat.le_of_ble_eq_true rfl) ?_
    refine x_aload_n C dX0_push_44 rfl ?_
    refine x_getfield C qk0 2 (by decide) lfX0_30 dX0_push_45 (q_gss ((setP_9 (by omega)).trans h0)) rfl ?_
    refine x_bipush C (v := nI 8) dX0_push_48 (by decide +kernel) ?_
    refine x_icmp_geN C 63 dX0_push_50 (by decide) (by omega) (by omega) (fun c50 => ?_) (fun c50 => ?_)
    · exact x_vret E dX0_push_63 rfl rfl (by rw [show nxt nx = nx + 1 by unfold nxt; rw [if_pos (by omega)]]; rw [show szt sz = sz by unfold szt; rw [if_neg (by omega)]]; rfl)
    · refine x_aload_n C dX0_push_53 rfl ?_
      refine x_dup C rfl dX0_push_54 ?_
      refine x_getfield C qk0 2 (by decide) lfX0_30 dX0_push_55 (q_gss ((setP_9 (by omega)).trans h0)) rfl ?_
      refine x_iconst C (v := nI 1) dX0_push_58 (by decide +kernel) ?_
      refine x_iaddN C dX0_push_59 ?_
      refine x_putfield C qk0 2 (by decide) lfX0_30 rfl (ty0 := .int) (by decide +kernel) rfl rfl dX0_push_60 (q_gss ((setP_9 (by omega)).trans h0)) (Nat.le_of_ble_eq_true rfl) ?_
      exact x_vret E dX0_push_63 rfl rfl (by rw [show nxt nx = nx + 1 by unfold nxt; rw [if_pos (by omega)]]; rw [show szt sz = sz + 1 by unfold szt; rw [if_pos (by omega)]]; rw [List.set_set]; rfl)
def prv (nx : Nat) : Nat := if nx = 0 then 7 else nx - 1
theorem prv_lt {nx : Nat} (h : nx < 8) : prv nx < 8 := by unfold prv; split <;> omega
set_option maxHeartbeats 4000000 in
set_option maxRecDepth 100000 in
theorem okX0_pop {h : qH} {R : Nat → qP} {nx sz m : Nat} {P : qP} (hh : HistA h R nx sz) (hn : nx < 8) (hsz : 0 < sz) (hsz8 : sz ≤ 8) (hp : PosF h m P) (hR : ∀ j, j < 8 → Bd (R j).1) (hP : Bd P.1) (hm : m + 1 < 9) : Ok MX0_pop [.ref 9, .ref m] (h) (none) ((setP h m (R (prv nx))).set 9 (qHi (prv nx) (sz - 1))) := by
  refine ok_of (by decide +kernel) (Nat.zero_le _) (Nat.le_of_ble_eq_true rfl) ?_
  intro X C E
  show Ex X MX0_pop 0 [(0, .ref 9), (1, .ref m)] [] (h)
  obtain ⟨h0, h1, h2⟩ := id hh
  have hpn := prv_lt hn
  have hpr := h2 (prv nx) hpn
  have h9 : (setP h m (R (prv nx)))[9]? = some (qHi nx sz) := by
    unfold setP
    rw [q_gso (by omega), q_gso (by omega)]
    exact h0
  have J : Ex X MX0_pop 18 [(0, .ref 9), (1, .ref m)] [.int (nI (prv nx))] h := by
    refine x_istore_n C dX0_pop_18 (by decide) [(2, _), (0, _), (1, _)] rfl ?_
    refine x_aload_n C dX0_pop_19 rfl ?_
    refine x_iload_n C dX0_pop_20 rfl ?_
    refine x_callV1i C (okX0_rowAt hh hpn) lkX0_22 miX0_rowAt msX0_rowAt maX0_rowAt ⟨Nat.le_of_ble_eq_true rfl, Nat.le_of_ble_eq_true rfl⟩ (Nat.le_of_ble_eq_true rfl) h0 rfl dX0_pop_21 ?_
    refine x_astore_n C dX0_pop_24 (by decide) [(3, _), (2, _), (0, _), (1, _)] rfl ?_
    refine x_aload_n C dX0_pop_25 rfl ?_
    refine x_ifnull C dX0_pop_26 ?_
    refine x_aload_n C dX0_pop_29 rfl ?_
    refine x_getfield C qk0 2 (by decide) lfX0_30 dX0_pop_30 h0 rfl ?_
    refine x_if_neN C 37 dX0_pop_33 (by decide) (by omega) (fun c33 => ?_) (fun c33 => ?_)
    · refine x_aload_n C dX0_pop_37 rfl ?_
      refine x_aload_n C dX0_pop_38 rfl ?_
      refine x_callV1v C (okX3_copyFrom hp hpr hP (hR _ hpn) (by omega) (by omega) (by omega)) lkX0_26 miX3_copyFrom msX3_copyFrom maX3_copyFrom ⟨Nat.le_of_ble_eq_true rfl, Nat.le_of_ble_eq_true rfl⟩ (Nat.le_of_ble_eq_true rfl) hp.1 rfl dX0_pop_39 ?_
      refine x_aload_n C dX0_pop_42 rfl ?_
      refine x_iload_n C dX0_pop_43 rfl ?_
      refine x_putfield C qk0 1 (by decide) lfX0_18 rfl (ty0 := .int) (by decide +kernel) rfl rfl dX0_pop_44 h9 (Nat.le_of_ble_eq_true rfl) ?_
      refine x_aload_n C dX0_pop_47 rfl ?_
      refine x_dup C rfl dX0_pop_48 ?_
      refine x_getfield C qk0 2 (by decide) lfX0_30 dX0_pop_49 (q_gss h9) rfl ?_
      refine x_iconst C (v := nI 1) dX0_pop_52 (by decide +kernel) ?_
      refine x_isubN C dX0_pop_53 (by omega) ?_
      refine x_putfield C qk0 2 (by decide) lfX0_30 rfl (ty0 := .int) (by decide +kernel) rfl rfl dX0_pop_54 (q_gss h9) (Nat.le_of_ble_eq_true rfl) ?_
      exact x_vret E dX0_pop_57 rfl rfl (by rw [List.set_set]; rfl)
    · exact absurd c33 (by omega)
  refine x_aload_n C dX0_pop_0 rfl ?_
  refine x_getfield C qk0 1 (by decide) lfX0_18 dX0_pop_1 h0 rfl ?_
  refine x_if_leN C 16 dX0_pop_4 (by decide) (by omega) (fun c4 => ?_) (fun c4 => ?_)
  · refine x_bipush C (v := nI 7) dX0_pop_16 (by decide +kernel) ?_
    exact x_top (by unfold prv; rw [if_pos c4]) J
  · refine x_aload_n C dX0_pop_7 rfl ?_
    refine x_getfield C qk0 1 (by decide) lfX0_18 dX0_pop_8 h0 rfl ?_
    refine x_iconst C (v := nI 1) dX0_pop_11 (by decide +kernel) ?_
    refine x_isubN C dX0_pop_12 (by omega) ?_
    refine x_goto C 18 dX0_pop_13 (by decide) ?_
    exact x_top (by unfold prv; rw [if_neg c4]) J
set_option maxHeartbeats 4000000 in
set_option maxRecDepth 100000 in
theorem okX0_clear {h : qH} {R : Nat → qP} {nx sz : Nat} (hh : HistA h R nx sz) : Ok MX0_clear [.ref 9] (h) (none) (h.set 9 (qHi 0 0)) := by
  refine ok_of (by decide +kernel) (Nat.zero_le _) (Nat.le_of_ble_eq_true rfl) ?_
  intro X C E
  show Ex X MX0_clear 0 [(0, .ref 9)] [] (h)
  obtain ⟨h0, h1, h2⟩ := id hh
  refine x_aload_n C dX0_clear_0 rfl ?_
  refine x_iconst C (v := nI 0) dX0_clear_1 (by decide +kernel) ?_
  refine x_putfield C qk0 1 (by decide) lfX0_18 rfl (ty0 := .int) (by decide +kernel) rfl rfl dX0_clear_2 h0 (Nat.le_of_ble_eq_true rfl) ?_
  refine x_aload_n C dX0_clear_5 rfl ?_
  refine x_iconst C (v := nI 0) dX0_clear_6 (by decide +kernel) ?_
  refine x_putfield C qk0 2 (by decide) lfX0_30 rfl (ty0 := .int) (by decide +kernel) rfl rfl dX0_clear_7 (q_gss h0) (Nat.le_of_ble_eq_true rfl) ?_
  exact x_vret E dX0_clear_10 rfl rfl (by rw [List.set_set]; rfl)
