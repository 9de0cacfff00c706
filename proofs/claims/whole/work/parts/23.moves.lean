/-! a position, further: what is covered, moves, outlooks, keys -/
def covR (b : Nat → Nat) : Nat → (Nat → Bool)
  | 0 => fun _ => false
  | n + 1 => if isW (b n) = true then fun t => covR b n t || reachP b n t else covR b n
def attR (b : Nat → Nat) (i : Nat) (f : Nat) : Bool := isW (b f) && reachP b f i
def stoR (b : Nat → Nat) : Nat → (Nat → Bool)
  | 0 => fun _ => false
  | n + 1 => if b n = 6 then fun t => stoR b n t || one n t else stoR b n
def barR (b : Nat → Nat) : Nat → (Nat → Bool)
  | 0 => fun _ => false
  | n + 1 => if isW (b n) = true ∨ b n = 7 then fun t => barR b n t || one n t else barR b n
theorem isW_6 {m : Nat} (h : m = 6) : isW m = false := by subst h; rfl
set_option maxHeartbeats 4000000 in
set_option maxRecDepth 100000 in
theorem okX3_covered {h : qH} {k : Nat} {b : Nat → Nat} (hp : PosA h k b) (hb : ∀ i, b i < 8) : Ok MX3_covered [.ref k] (h) (some (.int (mask (covR b 25)))) (h) := by
  refine ok_of (by decide +kernel) (Nat.zero_le _) (Nat.le_of_ble_eq_true rfl) ?_
  intro X C E
  show Ex X MX3_covered 0 [(0, .ref k)] [] (h)
  obtain ⟨⟨f1, f2, f3, f4, h0⟩, h1⟩ := id hp
  have L : ∀ n i : Nat, i + n = 25 → Ex X MX3_covered 4 [(0, .ref k), (1, .int (mask (covR b i))), (2, .int (nI i))] [] (h) := by
    intro n
    induction n with
    | zero =>
      intro i hin 
      have e : i = 25 := by omega
      subst e
      refine x_iload_n C dX3_covered_4 rfl ?_
      refine x_bipush C (v := nI 25) dX3_covered_5 (by decide +kernel) ?_
      refine x_icmp_geN C 36 dX3_covered_7 (by decide) (by omega) (by omega) (fun c7 => ?_) (fun c7 => ?_)
      · refine x_iload_n C dX3_covered_36 rfl ?_
        exact x_iret E .int dX3_covered_37 rfl rfl rfl rfl
      · exact absurd c7 (by omega)
    | succ n ih =>
      intro i hin 
      have hlt : i < 25 := by omega
      have hbi := hb i
      refine x_iload_n C dX3_covered_4 rfl ?_
      refine x_bipush C (v := nI 25) dX3_covered_5 (by decide +kernel) ?_
      refine x_icmp_geN C 36 dX3_covered_7 (by decide) (by omega) (by omega) (fun c7 => ?_) (fun c7 => ?_)
      · exact absurd c7 (by omega)
      · refine x_aload_n C dX3_covered_10 rfl ?_
        refine x_getfield C qk3 0 (by decide) lfX3_9 dX3_covered_11 h0 rfl ?_
        refine x_iload_n C dX3_covered_14 rfl ?_
        refine x_iald C dX3_covered_15 h1 (by omega) (by decide) ?_
        refine x_callN1i C (okX5_isWhite _ (by omega) _) lkX3_49 miX5_isWhite mtX5_isWhite maX5_isWhite ⟨Nat.le_of_ble_eq_true rfl, Nat.le_of_ble_eq_true rfl⟩ (Nat.le_of_ble_eq_true rfl) dX3_covered_16 ?_
        refine x_if_eqB C 30 dX3_covered_19 (by decide) (fun c19 => ?_) (fun c19 => ?_)
        · rw [show covR b i = covR b (i + 1) by simp only [covR, c19]; rfl]
          refine x_iinc C _ dX3_covered_30 rfl (q_inc _) (by decide) [(2, _), (0, _), (1, _)] rfl ?_
          refine x_goto C 4 dX3_covered_33 (by decide) ?_
          exact x_sub [1, 2, 0] (ih (i + 1) (by omega)) rfl
        · refine x_iload_n C dX3_covered_22 rfl ?_
          refine x_aload_n C dX3_covered_23 rfl ?_
          refine x_iload_n C dX3_covered_24 rfl ?_
          refine x_callV1i C (okX3_reach hp hb hlt) lkX3_52 miX3_reach msX3_reach maX3_reach ⟨Nat.le_of_ble_eq_true rfl, Nat.le_of_ble_eq_true rfl⟩ (Nat.le_of_ble_eq_true rfl) h0 rfl dX3_covered_25 ?_
          refine x_ior C dX3_covered_28 ?_
          rw [mask_or, show (fun t => covR b i t || reachP b i t) = covR b (i + 1) by simp only [covR, if_pos c19]]
          refine x_istore_n C dX3_covered_29 (by decide) [(1, _), (0, _), (2, _)] rfl ?_
          refine x_iinc C _ dX3_covered_30 rfl (q_inc _) (by decide) [(2, _), (1, _), (0, _)] rfl ?_
          refine x_goto C 4 dX3_covered_33 (by decide) ?_
          exact x_sub [2, 1, 0] (ih (i + 1) (by omega)) rfl
  refine x_iconst C (v := nI 0) dX3_covered_0 (by decide +kernel) ?_
  rw [← mask_none]
  refine x_istore_n C dX3_covered_1 (by decide) [(1, _), (0, _)] rfl ?_
  refine x_iconst C (v := nI 0) dX3_covered_2 (by decide +kernel) ?_
  refine x_istore_n C dX3_covered_3 (by decide) [(2, _), (1, _), (0, _)] rfl ?_
  exact x_sub [2, 1, 0] (L 25 0 (by omega)) rfl
set_option maxHeartbeats 4000000 in
set_option maxRecDepth 100000 in
theorem okX3_countManByMan {h : qH} {k : Nat} {b : Nat → Nat} (hp : PosA h k b) (hb : ∀ i, b i < 8) {s : Nat} (hs : s < 25) : Ok MX3_countManByMan [.ref k, .int (nI s)] (h) (some (.int (nI (cnt (attR b s) 25)))) (h) := by
  refine ok_of (by decide +kernel) (Nat.zero_le _) (Nat.le_of_ble_eq_true rfl) ?_
  intro X C E
  show Ex X MX3_countManByMan 0 [(0, .ref k), (1, .int (nI s))] [] (h)
  obtain ⟨⟨f1, f2, f3, f4, h0⟩, h1⟩ := id hp
  have L : ∀ n i : Nat, i + n = 25 → Ex X MX3_countManByMan 4 [(0, .ref k), (1, .int (nI s)), (2, .int (nI (cnt (attR b s) i))), (3, .int (nI i))] [] (h) := by
    intro n
    induction n with
    | zero =>
      intro i hin 
      have e : i = 25 := by omega
      subst e
      refine x_iload_n C dX3_countManByMan_4 rfl ?_
      refine x_bipush C (v := nI 25) dX3_countManByMan_5 (by decide +kernel) ?_
      refine x_icmp_geN C 43 dX3_countManByMan_7 (by decide) (by omega) (by omega) (fun c7 => ?_) (fun c7 => ?_)
      · refine x_iload_n C dX3_countManByMan_43 rfl ?_
        exact x_iret E .int dX3_countManByMan_44 rfl rfl rfl rfl
      · exact absurd c7 (by omega)
    | succ n ih =>
      intro i hin 
      have hlt : i < 25 := by omega
      have hbi := hb i
      refine x_iload_n C dX3_countManByMan_4 rfl ?_
      refine x_bipush C (v := nI 25) dX3_countManByMan_5 (by decide +kernel) ?_
      refine x_icmp_geN C 43 dX3_countManByMan_7 (by decide) (by omega) (by omega) (fun c7 => ?_) (fun c7 => ?_)
      · exact absurd c7 (by omega)
      · refine x_aload_n C dX3_countManByMan_10 rfl ?_
        refine x_getfield C qk3 0 (by decide) lfX3_9 dX3_countManByMan_11 h0 rfl ?_
        refine x_iload_n C dX3_countManByMan_14 rfl ?_
        refine x_iald C dX3_countManByMan_15 h1 (by omega) (by decide) ?_
        refine x_callN1i C (okX5_isWhite _ (by omega) _) lkX3_49 miX5_isWhite mtX5_isWhite maX5_isWhite ⟨Nat.le_of_ble_eq_true rfl, Nat.le_of_ble_eq_true rfl⟩ (Nat.le_of_ble_eq_true rfl) dX3_countManByMan_16 ?_
        refine x_if_eqB C 37 dX3_countManByMan_19 (by decide) (fun c19 => ?_) (fun c19 => ?_)
        · rw [show cnt (attR b s) i = cnt (attR b s) (i + 1) by simp [cnt, attR, c19]]
          refine x_iinc C _ dX3_countManByMan_37 rfl (q_inc _) (by decide) [(3, _), (0, _), (1, _), (2, _)] rfl ?_
          refine x_goto C 4 dX3_countManByMan_40 (by decide) ?_
          exact x_sub [1, 2, 3, 0] (ih (i + 1) (by omega)) rfl
        · refine x_aload_n C dX3_countManByMan_22 rfl ?_
          refine x_iload_n C dX3_countManByMan_23 rfl ?_
          refine x_callV1i C (okX3_reach hp hb hlt) lkX3_52 miX3_reach msX3_reach maX3_reach ⟨Nat.le_of_ble_eq_true rfl, Nat.le_of_ble_eq_true rfl⟩ (Nat.le_of_ble_eq_true rfl) h0 rfl dX3_countManByMan_24 ?_
          refine x_iload_n C dX3_countManByMan_27 rfl ?_
          refine x_callN2i C (okX5_hasSquare _ hs _) lkX3_55 miX5_hasSquare mtX5_hasSquare maX5_hasSquare ⟨Nat.le_of_ble_eq_true rfl, Nat.le_of_ble_eq_true rfl⟩ (Nat.le_of_ble_eq_true rfl) dX3_countManByMan_28 ?_
          refine x_if_eqB C 37 dX3_countManByMan_31 (by decide) (fun c31 => ?_) (fun c31 => ?_)
          · rw [show cnt (attR b s) i = cnt (attR b s) (i + 1) by simp [cnt, attR, c31]]
            refine x_iinc C _ dX3_countManByMan_37 rfl (q_inc _) (by decide) [(3, _), (0, _), (1, _), (2, _)] rfl ?_
            refine x_goto C 4 dX3_countManByMan_40 (by decide) ?_
            exact x_sub [1, 2, 3, 0] (ih (i + 1) (by omega)) rfl
          · have e : cnt (attR b s) i + 1 = cnt (attR b s) (i + 1) := by simp [cnt, attR, c19, c31]
            refine x_iinc C (nI (cnt (attR b s) (i + 1))) dX3_countManByMan_34 rfl (by rw [← e]; exact q_inc _) (by decide) [(2, _), (0, _), (1, _), (3, _)] rfl ?_
            refine x_iinc C _ dX3_countManByMan_37 rfl (q_inc _) (by decide) [(3, _), (2, _), (0, _), (1, _)] rfl ?_
            refine x_goto C 4 dX3_countManByMan_40 (by decide) ?_
            exact x_sub [2, 3, 1, 0] (ih (i + 1) (by omega)) rfl
  refine x_iconst C (v := nI 0) dX3_countManByMan_0 (by decide +kernel) ?_
  refine x_istore_n C dX3_countManByMan_1 (by decide) [(2, _), (0, _), (1, _)] rfl ?_
  refine x_iconst C (v := nI 0) dX3_countManByMan_2 (by decide +kernel) ?_
  refine x_istore_n C dX3_countManByMan_3 (by decide) [(3, _), (2, _), (0, _), (1, _)] rfl ?_
  exact x_sub [2, 3, 1, 0] (L 25 0 (by omega)) rfl
def kReach (b : Nat → Nat) : Nat → Bool := match loc7 b 7 with
  | none => fun _ => false
  | some j => reachP b j
def barP (b : Nat → Nat) (i : Nat) : Nat → Bool := if b i = 1 then fun t => barR b 25 t || kReach b t else barR b 25
def movP (b : Nat → Nat) (i : Nat) : Nat → Bool := if isW (b i) = true then fun t => reachP b i t && !barP b i t else fun _ => false
set_option maxHeartbeats 4000000 in
set_option maxRecDepth 100000 in
theorem okX3_reachK {h : qH} {k : Nat} {b : Nat → Nat} (hp : PosA h k b) (hb : ∀ i, b i < 8) : Ok MX3_reach [.ref k, .int (sqI (loc7 b 7))] h (some (.int (mask (kReach b)))) h := by
  unfold kReach
  cases e : loc7 b 7 with
  | none =>
    rw [show mask (fun _ => false) = nI 0 from mask_none]
    exact okX3_reach_out hp (by decide +kernel)
  | some j => exact okX3_reach hp hb (loc7_some e).1
set_option maxHeartbeats 4000000 in
set_option maxRecDepth 100000 in
theorem okX3_movesFrom {h : qH} {k : Nat} {b : Nat → Nat} (hp : PosA h k b) (hb : ∀ i, b i < 8) {i : Nat} (hi : i < 25) : Ok MX3_movesFrom [.ref k, .int (nI i)] (h) (some (.int (mask (movP b i)))) (h) := by
  refine ok_of (by decide +kernel) (Nat.zero_le _) (Nat.le_of_ble_eq_true rfl) ?_
  intro X C E
  show Ex X MX3_movesFrom 0 [(0, .ref k), (1, .int (nI i))] [] (h)
  obtain ⟨⟨f1, f2, f3, f4, h0⟩, h1⟩ := id hp
  have hbi := hb i
  have J92 : isW (b i) = true → Ex X MX3_movesFrom 92 [(0, .ref k), (1, .int (nI i)), (2, .int (mask (barP b i)))] [] h := by
    intro hw
    refine x_aload_n C dX3_movesFrom_92 rfl ?_
    refine x_iload_n C dX3_movesFrom_93 rfl ?_
    refine x_callV1i C (okX3_reach hp hb hi) lkX3_52 miX3_reach msX3_reach maX3_reach ⟨Nat.le_of_ble_eq_true rfl, Nat.le_of_ble_eq_true rfl⟩ (Nat.le_of_ble_eq_true rfl) h0 rfl dX3_movesFrom_94 ?_
    refine x_iload_n C dX3_movesFrom_97 rfl ?_
    refine x_iconst C (v := (-1)) dX3_movesFrom_98 (by decide +kernel) ?_
    refine x_ixor C dX3_movesFrom_99 ?_
    refine x_iand C dX3_movesFrom_100 ?_
    rw [mask_diff]
    exact x_iret E .int dX3_movesFrom_101 rfl rfl (by unfold movP; rw [if_pos hw]) rfl
  have L : ∀ n j : Nat, j + n = 25 → isW (b i) = true → Ex X MX3_movesFrom 28 [(0, .ref k), (1, .int (nI i)), (2, .int (mask (barR b j))), (3, .int (nI j))] [] (h) := by
    intro n
    induction n with
    | zero =>
      intro j hin hw
      have e : j = 25 := by omega
      subst e
      refine x_iload_n C dX3_movesFrom_28 rfl ?_
      refine x_bipush C (v := nI 25) dX3_movesFrom_29 (by decide +kernel) ?_
      refine x_icmp_geN C 69 dX3_movesFrom_31 (by decide) (by omega) (by omega) (fun c31 => ?_) (fun c31 => ?_)
      · refine x_aload_n C dX3_movesFrom_69 rfl ?_
        refine x_getfield C qk3 0 (by decide) lfX3_9 dX3_movesFrom_70 h0 rfl ?_
        refine x_iload_n C dX3_movesFrom_73 rfl ?_
        refine x_iald C dX3_movesFrom_74 h1 (by omega) (by decide) ?_
        refine x_iconst C (v := nI 1) dX3_movesFrom_75 (by decide +kernel) ?_
        refine x_icmp_neN C 92 dX3_movesFrom_76 (by decide) (by omega) (by omega) (fun c76 => ?_) (fun c76 => ?_)
        · rw [show barR b 25 = barP b i by unfold barP; rw [if_neg c76]]
          exact x_sub [0, 1, 2] (J92 hw) rfl
        · refine x_iload_n C dX3_movesFrom_79 rfl ?_
          refine x_aload_n C dX3_movesFrom_80 rfl ?_
          refine x_aload_n C dX3_movesFrom_81 rfl ?_
          refine x_bipush C (v := nI 7) dX3_movesFrom_82 (by decide +kernel) ?_
          refine x_callV1i C (okX3_squareOf hp hb 7 (by decide)) lkX3_36 miX3_squareOf msX3_squareOf maX3_squareOf ⟨Nat.le_of_ble_eq_true rfl, Nat.le_of_ble_eq_true rfl⟩ (Nat.le_of_ble_eq_true rfl) h0 rfl dX3_movesFrom_84 ?_
          refine x_callV1i C (okX3_reachK hp hb) lkX3_52 miX3_reach msX3_reach maX3_reach ⟨Nat.le_of_ble_eq_true rfl, Nat.le_of_ble_eq_true rfl⟩ (Nat.le_of_ble_eq_true rfl) h0 rfl dX3_movesFrom_87 ?_
          refine x_ior C dX3_movesFrom_90 ?_
          rw [mask_or]
          rw [show (fun t => barR b 25 t || kReach b t) = barP b i by unfold barP; rw [if_pos c76]]
          refine x_istore_n C dX3_movesFrom_91 (by decide) [(2, _), (0, _), (1, _), (3, _)] rfl ?_
          exact x_sub [1, 2, 0] (J92 hw) rfl
      · exact absurd c31 (by omega)
    | succ n ih =>
      intro j hin hw
      have hlt : j < 25 := by omega
      have hbj := hb j
      refine x_iload_n C dX3_movesFrom_28 rfl ?_
      refine x_bipush C (v := nI 25) dX3_movesFrom_29 (by decide +kernel) ?_
      refine x_icmp_geN C 69 dX3_movesFrom_31 (by decide) (by omega) (by omega) (fun c31 => ?_) (fun c31 => ?_)
      · exact absurd c31 (by omega)
      · refine x_aload_n C dX3_movesFrom_34 rfl ?_
        refine x_getfield C qk3 0 (by decide) lfX3_9 dX3_movesFrom_35 h0 rfl ?_
        refine x_iload_n C dX3_movesFrom_38 rfl ?_
        refine x_iald C dX3_movesFrom_39 h1 (by omega) (by decide) ?_
        refine x_callN1i C (okX5_isWhite _ (by omega) _) lkX3_49 miX5_isWhite mtX5_isWhite maX5_isWhite ⟨Nat.le_of_ble_eq_true rfl, Nat.le_of_ble_eq_true rfl⟩ (Nat.le_of_ble_eq_true rfl) dX3_movesFrom_40 ?_
        refine x_if_neB C 57 dX3_movesFrom_43 (by decide) (fun c43 => ?_) (fun c43 => ?_)
        · have hor : isW (b j) = true ∨ b j = 7 := Or.inl c43
          refine x_iload_n C dX3_movesFrom_57 rfl ?_
          refine x_iconst C (v := nI 1) dX3_movesFrom_58 (by decide +kernel) ?_
          refine x_iload_n C dX3_movesFrom_59 rfl ?_
          refine x_ishl C dX3_movesFrom_60 ?_
          rw [mask_one hlt]
          refine x_ior C dX3_movesFrom_61 ?_
          rw [mask_or]
          rw [show (fun t => barR b j t || one j t) = barR b (j + 1) by simp only [barR]; rw [if_pos hor]]
          refine x_istore_n C dX3_movesFrom_62 (by decide) [(2, _), (0, _), (1, _), (3, _)] rfl ?_
          refine x_iinc C _ dX3_movesFrom_63 rfl (q_inc _) (by decide) [(3, _), (2, _), (0, _), (1, _)] rfl ?_
          refine x_goto C 28 dX3_movesFrom_66 (by decide) ?_
          exact x_sub [2, 3, 1, 0] (ih (j + 1) (by omega) hw) rfl
        · refine x_aload_n C dX3_movesFrom_46 rfl ?_
          refine x_getfield C qk3 0 (by decide) lfX3_9 dX3_movesFrom_47 h0 rfl ?_
          refine x_iload_n C dX3_movesFrom_50 rfl ?_
          refine x_iald C dX3_movesFrom_51 h1 (by omega) (by decide) ?_
          refine x_bipush C (v := nI 7) dX3_movesFrom_52 (by decide +kernel) ?_
          refine x_icmp_neN C 63 dX3_movesFrom_54 (by decide) (by omega) (by omega) (fun c54 => ?_) (fun c54 => ?_)
          · rw [show barR b j = barR b (j + 1) by simp only [barR]; rw [if_neg (by simp [c43, c54])]]
            refine x_iinc C _ dX3_movesFrom_63 rfl (q_inc _) (by decide) [(3, _), (0, _), (1, _), (2, _)] rfl ?_
            refine x_goto C 28 dX3_movesFrom_66 (by decide) ?_
            exact x_sub [1, 2, 3, 0] (ih (j + 1) (by omega) hw) rfl
          · have hor : isW (b j) = true ∨ b j = 7 := Or.inr c54
            refine x_iload_n C dX3_movesFrom_57 rfl ?_
            refine x_iconst C (v := nI 1) dX3_movesFrom_58 (by decide +kernel) ?_
            refine x_iload_n C dX3_movesFrom_59 rfl ?_
            refine x_ishl C dX3_movesFrom_60 ?_
            rw [mask_one hlt]
            refine x_ior C dX3_movesFrom_61 ?_
            rw [mask_or]
            rw [show (fun t => barR b j t || one j t) = barR b (j + 1) by simp only [barR]; rw [if_pos hor]]
            refine x_istore_n C dX3_movesFrom_62 (by decide) [(2, _), (0, _), (1, _), (3, _)] rfl ?_
            refine x_iinc C _ dX3_movesFrom_63 rfl (q_inc _) (by decide) [(3, _), (2, _), (0, _), (1, _)] rfl ?_
            refine x_goto C 28 dX3_movesFrom_66 (by decide) ?_
            exact x_sub [2, 3, 1, 0] (ih (j + 1) (by omega) hw) rfl
  refine x_iload_n C dX3_movesFrom_0 rfl ?_
  refine x_if_ltN C 22 dX3_movesFrom_1 (by decide) (by omega) ?_
  refine x_iload_n C dX3_movesFrom_4 rfl ?_
  refine x_bipush C (v := nI 25) dX3_movesFrom_5 (by decide +kernel) ?_
  refine x_icmp_geN C 22 dX3_movesFrom_7 (by decide) (by omega) (by omega) (fun c7 => ?_) (fun c7 => ?_)
  · exact absurd c7 (by omega)
  · refine x_aload_n C dX3_movesFrom_10 rfl ?_
    refine x_getfield C qk3 0 (by decide) lfX3_9 dX3_movesFrom_11 h0 rfl ?_
    refine x_iload_n C dX3_movesFrom_14 rfl ?_
    refine x_iald C dX3_movesFrom_15 h1 (by omega) (by decide) ?_
    refine x_callN1i C (okX5_isWhite _ (by omega) _) lkX3_49 miX5_isWhite mtX5_isWhite maX5_isWhite ⟨Nat.le_of_ble_eq_true rfl, Nat.le_of_ble_eq_true rfl⟩ (Nat.le_of_ble_eq_true rfl) dX3_movesFrom_16 ?_
    refine x_if_neB C 24 dX3_movesFrom_19 (by decide) (fun c19 => ?_) (fun c19 => ?_)
    · refine x_iconst C (v := nI 0) dX3_movesFrom_24 (by decide +kernel) ?_
      rw [← mask_none]
      refine x_istore_n C dX3_movesFrom_25 (by decide) [(2, _), (0, _), (1, _)] rfl ?_
      refine x_iconst C (v := nI 0) dX3_movesFrom_26 (by decide +kernel) ?_
      refine x_istore_n C dX3_movesFrom_27 (by decide) [(3, _), (2, _), (0, _), (1, _)] rfl ?_
      exact x_sub [2, 3, 1, 0] (L 25 0 (by omega) c19) rfl
    · refine x_iconst C (v := nI 0) dX3_movesFrom_22 (by decide +kernel) ?_
      exact x_iret E .int dX3_movesFrom_23 rfl rfl (by unfold movP; rw [if_neg (by rw [c19]; decide), mask_none]) rfl
set_option maxHeartbeats 4000000 in
set_option maxRecDepth 100000 in
theorem okX3_hasMove {h : qH} {k : Nat} {b : Nat → Nat} (hp : PosA h k b) (hb : ∀ i, b i < 8) {i j : Nat} (hi : i < 25) (hj : j < 25) : Ok MX3_hasMove [.ref k, .int (nI i), .int (nI j)] (h) (some (.int (qb (movP b i j)))) (h) := by
  refine ok_of (by decide +kernel) (Nat.zero_le _) (Nat.le_of_ble_eq_true rfl) ?_
  intro X C E
  show Ex X MX3_hasMove 0 [(0, .ref k), (1, .int (nI i)), (2, .int (nI j))] [] (h)
  obtain ⟨⟨f1, f2, f3, f4, h0⟩, h1⟩ := id hp
  refine x_iload_n C dX3_hasMove_0 rfl ?_
  refine x_callN1i C (okX5_isSquare _ _) lkX3_28 miX5_isSquare mtX5_isSquare maX5_isSquare ⟨Nat.le_of_ble_eq_true rfl, Nat.le_of_ble_eq_true rfl⟩ (Nat.le_of_ble_eq_true rfl) dX3_hasMove_1 ?_
  rw [isSq_nI (by omega), decide_eq_true hi]
  refine x_if_eqB C 30 dX3_hasMove_4 (by decide) (fun c4 => ?_) (fun c4 => ?_)
  · exact absurd c4 (by decide)
  · refine x_iload_n C dX3_hasMove_7 rfl ?_
    refine x_callN1i C (okX5_isSquare _ _) lkX3_28 miX5_isSquare mtX5_isSquare maX5_isSquare ⟨Nat.le_of_ble_eq_true rfl, Nat.le_of_ble_eq_true rfl⟩ (Nat.le_of_ble_eq_true rfl) dX3_hasMove_8 ?_
    rw [isSq_nI (by omega), decide_eq_true hj]
    refine x_if_eqB C 30 dX3_hasMove_11 (by decide) (fun c11 => ?_) (fun c11 => ?_)
    · exact absurd c11 (by decide)
    · refine x_aload_n C dX3_hasMove_14 rfl ?_
      refine x_iload_n C dX3_hasMove_15 rfl ?_
      refine x_callV1i C (okX3_movesFrom hp hb hi) lkX3_66 miX3_movesFrom msX3_movesFrom maX3_movesFrom ⟨Nat.le_of_ble_eq_true rfl, Nat.le_of_ble_eq_true rfl⟩ (Nat.le_of_ble_eq_true rfl) h0 rfl dX3_hasMove_16 ?_
      refine x_iload_n C dX3_hasMove_19 rfl ?_
      refine x_callN2i C (okX5_hasSquare _ hj _) lkX3_55 miX5_hasSquare mtX5_hasSquare maX5_hasSquare ⟨Nat.le_of_ble_eq_true rfl, Nat.le_of_ble_eq_true rfl⟩ (Nat.le_of_ble_eq_true rfl) dX3_hasMove_20 ?_
      refine x_if_eqB C 30 dX3_hasMove_23 (by decide) (fun c23 => ?_) (fun c23 => ?_)
      · refine x_iconst C (v := nI 0) dX3_hasMove_30 (by decide +kernel) ?_
        exact x_iret E .boolean dX3_hasMove_31 rfl rfl (by rw [c23]; rfl) rfl
      · refine x_iconst C (v := nI 1) dX3_hasMove_26 (by decide +kernel) ?_
        refine x_goto C 31 dX3_hasMove_27 (by decide) ?_
        exact x_iret E .boolean dX3_hasMove_31 rfl rfl (by rw [c23]; rfl) rfl
set_option maxHeartbeats 4000000 in
set_option maxRecDepth 100000 in
theorem okX3_hasMove_out {h : qH} {k : Nat} {b : Nat → Nat} (hp : PosA h k b) {x y : Int32} (hx : isSq x = false ∨ isSq y = false) : Ok MX3_hasMove [.ref k, .int x, .int y] (h) (some (.int (nI 0))) (h) := by
  refine ok_of (by decide +kernel) (Nat.zero_le _) (Nat.le_of_ble_eq_true rfl) ?_
  intro X C E
  show Ex X MX3_hasMove 0 [(0, .ref k), (1, .int x), (2, .int y)] [] (h)
  refine x_iload_n C dX3_hasMove_0 rfl ?_
  refine x_callN1i C (okX5_isSquare _ _) lkX3_28 miX5_isSquare mtX5_isSquare maX5_isSquare ⟨Nat.le_of_ble_eq_true rfl, Nat.le_of_ble_eq_true rfl⟩ (Nat.le_of_ble_eq_true rfl) dX3_hasMove_1 ?_
  refine x_if_eqB C 30 dX3_hasMove_4 (by decide) (fun c4 => ?_) (fun c4 => ?_)
  · refine x_iconst C (v := nI 0) dX3_hasMove_30 (by decide +kernel) ?_
    exact x_iret E .boolean dX3_hasMove_31 rfl rfl rfl rfl
  · refine x_iload_n C dX3_hasMove_7 rfl ?_
    refine x_callN1i C (okX5_isSquare _ _) lkX3_28 miX5_isSquare mtX5_isSquare maX5_isSquare ⟨Nat.le_of_ble_eq_true rfl, Nat.le_of_ble_eq_true rfl⟩ (Nat.le_of_ble_eq_true rfl) dX3_hasMove_8 ?_
    refine x_if_eqB C 30 dX3_hasMove_11 (by decide) (fun c11 => ?_) (fun c11 => ?_)
    · refine x_iconst C (v := nI 0) dX3_hasMove_30 (by decide +kernel) ?_
      exact x_iret E .boolean dX3_hasMove_31 rfl rfl rfl rfl
    · rcases hx with hx | hx
      · rw [c4] at hx; cases hx
      · rw [c11] at hx; cases hx
