/-! the heap that the two constructors leave -/
abbrev pz : qP := (fun _ => 0, 0, 0, 0, 0)
theorem sF_z : sF pz = fun _ => 0 := by
  funext i
  unfold sF
  (repeat' split) <;> rfl
set_option maxHeartbeats 4000000 in
set_option maxRecDepth 100000 in
theorem hz_eq : rX6 (rX5 [.inr (5, fX5)] ++ [.inr (6, fX6)]) 41 40 = HH (pz, pz, pz, pz) (fun _ => pz, 0, 0) (fun _ => nI 0, fun _ => nI 0, fun _ => 0, fun _ => 0) (fun _ => nI 0, 0) (fun _ => 0, 0, (nI 0, nI 0, nI 0, nI 0), (fun _ => nI 0, fun _ => nI 0, fun _ => nI 0, 0)) (false, -4, nI 0, nI 0, nI 0) (fun _ => 0, fun _ => 0, fun _ => 0, fun _ => 0, false, 0) (nI 0, nI 0, -4, nI 0) (fun _ => 0, 0, fun _ => 0, fun _ => 0) (fun _ => 0, 0) (fun _ => 0, 0, 0, false, fun _ => 0, 0) := rfl
theorem PG_z : PG pz := ⟨⟨fun _ => (by decide : (0 : Nat) < 8), fun _ _ => rfl⟩, fun i j _ _ h _ => absurd h (by decide : ¬ (0 : Nat) = 1), fun i j _ _ h _ => absurd h (by decide : ¬ (0 : Nat) = 7), by decide +kernel⟩
theorem inv_z : Inv (rX6 (rX5 [.inr (5, fX5)] ++ [.inr (6, fX6)]) 41 40) := by
  rw [hz_eq]
  have h := Inv.of (a := pz) (b := pz) (c := pz) (d := pz) (R := fun _ => pz) (nx := 0) (sz := 0) (Tm := fun _ => nI 0) (Tk := fun _ => nI 0) (ta := fun _ => 0) (mc := fun _ => 0) (g := fun _ => nI 0) (n := 0) (tx := fun _ => 0) (len := 0) (q := (nI 0, nI 0, nI 0, nI 0)) (r := (fun _ => nI 0, fun _ => nI 0, fun _ => nI 0, 0)) (V := (false, -4, nI 0, nI 0, nI 0)) (bf := fun _ => 0) (sv := fun _ => 0) (past := fun _ => 0) (isv := false) (pm := 0) (mr := (nI 0, nI 0, -4, nI 0)) (mm := (fun _ => 0, 0, fun _ => 0, fun _ => 0)) (ln := fun _ => 0) (lm := 0) (a0 := 0) (wr := false) (od := fun _ => 0) (o := 0)
    ⟨PG_z, PG_z.1, PG_z.1, PG_z⟩ ⟨by decide, by decide, fun _ _ => PG_z, rfl, fun j k hj => absurd hj (by omega)⟩ (fun _ => (by decide : (0 : Nat) < 100)) ⟨by decide, rfl, fun i hi => absurd hi (by omega)⟩ ⟨by decide, fun _ => (by decide : (0 : Nat) < 128)⟩ ⟨rfl, rfl, rfl, Or.inl rfl⟩ ⟨rfl, fun h => by cases h⟩
  rw [sF_z] at h
  exact h
/-! the law up to its loop -/
theorem clL_7 : Cond.classLink ML_law.1.cls 7 "MateKeys" ∈ qT := qT_in 70 (by decide +kernel) rfl
theorem ctI5 : Cond.instantiable "MateKeys" 16 ∈ qT := qT_in 71 (by decide +kernel) rfl
theorem ctZ5 : Cond.initialized "MateKeys" ∈ qT := qT_in 55 (by decide +kernel) rfl
theorem ctL5 : Cond.methodLink ML_law.1.cls 9 MX5_init.1 ∈ qT := qT_in 72 (by decide +kernel) rfl
theorem clL_10 : Cond.classLink ML_law.1.cls 10 "MateKeysModel" ∈ qT := qT_in 756 (by decide +kernel) rfl
theorem ctI6 : Cond.instantiable "MateKeysModel" 22 ∈ qT := qT_in 757 (by decide +kernel) rfl
theorem ctZ6 : Cond.initialized "MateKeysModel" ∈ qT := qT_in 61 (by decide +kernel) rfl
theorem ctL6 : Cond.methodLink ML_law.1.cls 12 MX6_init.1 ∈ qT := qT_in 758 (by decide +kernel) rfl
set_option maxHeartbeats 4000000 in
set_option maxRecDepth 100000 in
theorem law_start {X : qX} (C : qC X ML_law) (G : Grown X X 0 0) (AO : qAO X) {L : Nat} {xs : Nat → Int32} (Sc : ∀ X1, Grown X X1 51 1970 → qScr X1 L xs) (hL : L ≤ 1536) (kend : ∀ X1, Grown X X1 51 1970 → ∀ (h : qH) (loc : List (Nat × Value)), Ex X1 ML_law 859 loc [.int 1] h) : Ex X ML_law 0 [(0, .ref 3000)] [] [] := by
  have w3 : ∀ n, ∀ q ∈ [((0 : Nat), Value.ref 3000)], WfV n q.2 := fun n q hq => by
    rw [List.mem_singleton.mp hq]
    exact fun r e => by cases e; exact Or.inr (by decide)
  have w3b : ∀ n, 0 < n → ∀ q ∈ [((1 : Nat), Value.ref 0), (0, .ref 3000)], WfV n q.2 := fun n hn q hq => by
    rcases List.mem_cons.mp hq with rfl | hq
    · exact wfv_ref hn
    · exact w3 n q hq
  have W0 : Wf ([] : qH) := fun k e h => by cases h
  have F5 : HF (([] : qH) ++ [.inr (5, fX5)]) 1 0 5 fX5 := HF.nw W0 rfl (wfX5 _)
  obtain ⟨W5, L5⟩ := hf_X5 F5
  have F6 : HF (rX5 (([] : qH) ++ [.inr (5, fX5)]) ++ [.inr (6, fX6)]) 41 40 6 fX6 := HF.nw W5 L5 (wfX6 _)
  refine x_new C G (k := 0) (fs := fX5) rfl (by decide) W0 (w3 _) (fun v hv => by cases hv) qk5 clL_7 ctI5 ctZ5 dfX5 (fun f => rfl) (by decide) (by decide) dL_law_0 (fun X1 C G => ?_)
  refine x_dup C rfl dL_law_3 ?_
  refine x_callC C G AO (okC_X5 F5) F5.2.1 L5 (w3 _) (wf1 (by decide)) ctL5 nX5_init aX5_init ⟨Nat.le_of_ble_eq_true rfl, Nat.le_of_ble_eq_true rfl⟩ (Nat.le_of_ble_eq_true rfl) (by decide) (by decide) dL_law_4 (fun X1 C G => ?_)
  refine x_astore_n C dL_law_7 (Nat.le_of_ble_eq_true rfl) [(1, .ref 0), (0, .ref 3000)] rfl ?_
  refine x_new C G (k := 40) (fs := fX6) L5 (by decide) W5 (w3b _ (by decide)) (fun v hv => by cases hv) qk6 clL_10 ctI6 ctZ6 dfX6 (fun f => rfl) (by decide) (by decide) dL_law_8 (fun X1 C G => ?_)
  refine x_dup C rfl dL_law_11 ?_
  refine x_callC C G AO (okC_X6 F6 (by decide)) F6.2.1 (hf_X6 F6).2.1 (w3b _ (by decide)) (wf1 (by decide)) ctL6 nX6_init aX6_init ⟨Nat.le_of_ble_eq_true rfl, Nat.le_of_ble_eq_true rfl⟩ (Nat.le_of_ble_eq_true rfl) (by decide) (by decide) dL_law_12 (fun X1 C G => ?_)
  refine x_astore_n C dL_law_15 (Nat.le_of_ble_eq_true rfl) [(2, .ref 40), (1, .ref 0), (0, .ref 3000)] rfl ?_
  refine x_iconst C (v := nI 0) dL_law_16 (by decide +kernel) ?_
  refine x_istore_n C dL_law_17 (Nat.le_of_ble_eq_true rfl) [(3, .int (nI 0)), (2, .ref 40), (1, .ref 0), (0, .ref 3000)] rfl ?_
  exact law_loop C (Sc X1 G) hL (kend X1 G) 512 0 _ inv_z (Nat.zero_le L) (by omega)
