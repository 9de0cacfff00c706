/-! the history's constructor: a row of eight positions -/
def rowsF (i : Nat) : Nat → Option Nat := fun j => if j < i then some (11 + 2 * j) else none
abbrev rwE (i : Nat) : qE := .inl (2, 8, .inr (.inr (.inr (.inr (rowsF i)))))
abbrev fH0 : List Value := fX0.set 0 (.ref 10)
def HI (i : Nat) (h : qH) : Prop := HF h (11 + 2 * i) 9 0 fH0 ∧ h[10]? = some (rwE i)
abbrev rwS (h : qH) (i : Nat) : qH := (rX3 (h ++ [.inr (3, fX3)]) (11 + 2 * i + 1) (11 + 2 * i)).set 10 (rwE (i + 1))
theorem rowsF_s (i : Nat) : va_up (rowsF i) i (some (11 + 2 * i)) = rowsF (i + 1) := by
  funext j
  by_cases e : j = i
  · subst e
    rw [va_up_self]
    unfold rowsF
    rw [if_pos (Nat.lt_succ_self j)]
  · rw [va_up_ne _ _ e]
    unfold rowsF
    by_cases z : j < i
    · rw [if_pos z, if_pos (by omega)]
    · rw [if_neg z, if_neg (by omega)]
theorem rowsF_0 : (fun _ => none : Nat → Option Nat) = rowsF 0 := by
  funext j
  unfold rowsF
  rw [if_neg (Nat.not_lt_zero j)]
theorem rowsF_w {i n : Nat} (h : 11 + 2 * i ≤ n + 1) : WfE n (rwE i) := by
  intro j r e
  unfold rowsF at e
  split at e
  · cases e; left; omega
  · cases e
theorem HI.nx {i : Nat} {h : qH} (I : HI i h) : HI (i + 1) (rwS h i) := by
  obtain ⟨F, hr⟩ := I
  have F3 : HF (h ++ [.inr (3, fX3)]) (11 + 2 * i + 1) (11 + 2 * i) 3 fX3 := HF.nw F.1 F.2.1 (wfX3 _)
  have F4 := hf_X3 F3
  have e : 11 + 2 * (i + 1) = 11 + 2 * i + 1 + 1 := by omega
  unfold HI
  rw [e]
  refine ⟨⟨Wf.set F4.2.1 F4.1 10 (rowsF_w (by omega)), by rw [List.length_set]; exact F4.2.1, by omega, ?_⟩, ?_⟩
  · rw [List.getElem?_set_ne (by decide), get_X3 F3 (by omega)]
    exact F.gt _
  · rw [List.getElem?_set_self (by rw [F4.2.1]; omega)]
theorem clX0_9 : Cond.classLink RX0 9 "MateKeys$Position" ∈ qT := qT_in 111 (by decide +kernel) rfl
theorem inX3 : Cond.instantiable "MateKeys$Position" 5 ∈ qT := qT_in 79 (by decide +kernel) rfl
theorem izX3 : Cond.initialized "MateKeys$Position" ∈ qT := qT_in 56 (by decide +kernel) rfl
theorem liX0_17 : Cond.methodLinkNest RX0 17 MX3_init.1 "MateKeys" ∈ qN := qN_in 113 (by decide +kernel) rfl
set_option maxHeartbeats 4000000 in
set_option maxRecDepth 100000 in
theorem hist_step {X0 X : qX} {h : qH} (C : qC X MX0_init) (i : Nat) (hi : i < 8) (G : Grown X0 X (1 + 2 * i) (8 + 30 * i)) (AO : qAO X0) (I : HI i h) (kk : ∀ X1, qC X1 MX0_init → Grown X0 X1 (1 + 2 * (i + 1)) (8 + 30 * (i + 1)) → Ex X1 MX0_init 15 [(1, .int (nI (i + 1))), (0, .ref 9)] [] (rwS h i)) : Ex X MX0_init 15 [(1, .int (nI i)), (0, .ref 9)] [] h := by
  obtain ⟨F, hr⟩ := I
  have F3 : HF (h ++ [.inr (3, fX3)]) (11 + 2 * i + 1) (11 + 2 * i) 3 fX3 := HF.nw F.1 F.2.1 (wfX3 _)
  have F4 := hf_X3 F3
  have wl : ∀ n, 9 < n → ∀ q ∈ [((1 : Nat), Value.int (nI i)), (0, .ref 9)], WfV n q.2 := fun n hn q hq => by
    rcases List.mem_cons.mp hq with rfl | hq
    · exact fun r e => by cases e
    · exact wfl1 hn q hq
  refine x_iload_n C dX0_init_15 rfl ?_
  refine x_bipush C (v := nI 8) dX0_init_16 (by decide +kernel) ?_
  refine x_icmp_geN C 40 dX0_init_18 (by decide) (by omega) (by decide) (fun c => absurd c (by omega)) (fun _ => ?_)
  refine x_aload_n C dX0_init_21 rfl ?_
  refine x_getfield C qk0 0 (by decide) lfX0_11 dX0_init_22 F.2.2.2 rfl ?_
  refine x_iload_n C dX0_init_25 rfl ?_
  refine x_new C G (k := 11 + 2 * i) (fs := fX3) F.2.1 (by omega) F.1 (wl _ (by omega)) (fun v hv => ?_) qk3 clX0_9 inX3 izX3 dfX3 (fun f => rfl) (by show 1 + 2 * i + 1 ≤ 17; omega) (by show 8 + 30 * i + 5 ≤ 248; omega) dX0_init_26 (fun X1 C1 G1 => ?_)
  · rcases List.mem_cons.mp hv with rfl | hv
    · exact fun r e => by cases e
    · exact wf1 (by omega) v hv
  refine x_dup C1 rfl dX0_init_29 ?_
  refine x_callCN C1 G1 AO (host := "MateKeys") (okC_X3 F3 (by omega)) F3.2.1 F4.2.1 (wl _ (by omega)) (fun v hv => ?_) liX0_17 nX3_init aX3_init ⟨Nat.le_of_ble_eq_true rfl, Nat.le_of_ble_eq_true rfl⟩ (Nat.le_of_ble_eq_true rfl) (by show 1 + 2 * i + 1 + 1 ≤ 17; omega) (by show 8 + 30 * i + 5 + 25 ≤ 248; omega) dX0_init_30 (fun X2 C2 G2 => ?_)
  · rcases List.mem_cons.mp hv with rfl | hv
    · exact wfv_ref (by omega)
    · rcases List.mem_cons.mp hv with rfl | hv
      · exact fun r e => by cases e
      · exact wf1 (by omega) v hv
  refine x_aastR C2 dX0_init_33 (n := 8) (f := rowsF i) (by rw [get_X3 F3 (by omega), List.getElem?_append_left (by rw [F.2.1]; omega)]; exact hr) F4.2.2.2 hi (by decide) ?_
  rw [rowsF_s]
  refine x_iinc C2 (nI (i + 1)) dX0_init_34 rfl (q_inc i) (Nat.le_of_ble_eq_true rfl) _ rfl ?_
  refine x_goto C2 15 dX0_init_37 (by decide) ?_
  have e1 : 1 + 2 * (i + 1) = 1 + 2 * i + 1 + 1 := by omega
  have e2 : 8 + 30 * (i + 1) = 8 + 30 * i + 5 + 25 := by omega
  refine kk X2 C2 (by rw [e1, e2]; exact G2)
abbrev rX0 (h : qH) : qH := rwS (rwS (rwS (rwS (rwS (rwS (rwS (rwS (gA h 10 9 0 fX0 0 (rwE 0)) 0) 1) 2) 3) 4) 5) 6) 7
theorem HI.z {h : qH} (F : HF h 10 9 0 fX0) : HI 0 (gA h 10 9 0 fX0 0 (rwE 0)) := by
  refine ⟨F.ga (c := rwE 0) (rowsF_w (by omega)) 0, ?_⟩
  unfold gA
  rw [List.getElem?_set_ne (by decide), List.getElem?_append_right (by rw [F.2.1]; exact Nat.le_refl _), F.2.1]
  rfl
set_option maxHeartbeats 4000000 in
set_option maxRecDepth 100000 in
theorem okC_X0 {h : qH} (F : HF h 10 9 0 fX0) : OkC MX0_init [.ref 9] h (rX0 h) 17 248 := by
  refine okC_of (by decide +kernel) rfl (Nat.le_of_ble_eq_true rfl) rfl ?_
  intro X C I0 AO G E
  show Ex X MX0_init 0 [(0, .ref 9)] [] h
  refine x_aload_n C dX0_init_0 rfl ?_
  refine x_obj C oX0_init ⟨Nat.le_of_ble_eq_true rfl, Nat.le_of_ble_eq_true rfl⟩ (Nat.le_of_ble_eq_true rfl) dX0_init_1 ?_
  refine x_aload_n C dX0_init_4 rfl ?_
  refine x_bipush C (v := nI 8) dX0_init_5 (by decide +kernel) ?_
  refine x_newP C G AO (k := 10) (n := 8) F.2.1 (by decide) F.1 (wfl1 (by decide)) (wf1 (by decide)) clX0_9 (by decide) (Nat.le_of_ble_eq_true rfl) (Nat.le_of_ble_eq_true rfl) dX0_init_7 (fun X1 C1 G1 => ?_)
  rw [rowsF_0]
  refine x_putR C1 G1 I0 qk0 0 (by decide) lfX0_11 rfl rfl (ty0 := .array (.object "MateKeys$Position")) (by decide +kernel) (fun a => rfl) (fun a => rfl) dX0_init_10 (F.gt _) (Nat.le_of_ble_eq_true rfl) ?_
  have I := HI.z F
  refine x_iconst C1 (v := nI 0) dX0_init_13 (by decide +kernel) ?_
  refine x_istore_n C1 dX0_init_14 (Nat.le_of_ble_eq_true rfl) _ rfl ?_
  refine hist_step C1 0 (by decide) G1 AO I (fun X1 C1 G1 => ?_)
  replace I := I.nx
  refine hist_step C1 1 (by decide) G1 AO I (fun X1 C1 G1 => ?_)
  replace I := I.nx
  refine hist_step C1 2 (by decide) G1 AO I (fun X1 C1 G1 => ?_)
  replace I := I.nx
  refine hist_step C1 3 (by decide) G1 AO I (fun X1 C1 G1 => ?_)
  replace I := I.nx
  refine hist_step C1 4 (by decide) G1 AO I (fun X1 C1 G1 => ?_)
  replace I := I.nx
  refine hist_step C1 5 (by decide) G1 AO I (fun X1 C1 G1 => ?_)
  replace I := I.nx
  refine hist_step C1 6 (by decide) G1 AO I (fun X1 C1 G1 => ?_)
  replace I := I.nx
  refine hist_step C1 7 (by decide) G1 AO I (fun X1 C1 G1 => ?_)
  refine x_iload_n C1 dX0_init_15 rfl ?_
  refine x_bipush C1 (v := nI 8) dX0_init_16 (by decide +kernel) ?_
  refine x_icmp_geN C1 40 dX0_init_18 (by decide) (by decide) (by decide) (fun _ => ?_) (fun c => absurd (Nat.le_refl 8) c)
  exact E X1 G1 40 _ dX0_init_40
theorem hi_X0 {h : qH} (F : HF h 10 9 0 fX0) : HI 8 (rX0 h) := (((((((HI.z F).nx).nx).nx).nx).nx).nx).nx.nx
theorem get_rwS {h : qH} {i j : Nat} (I : HI i h) (hj : j < 10) : (rwS h i)[j]? = h[j]? := by
  obtain ⟨F, hr⟩ := I
  have F3 : HF (h ++ [.inr (3, fX3)]) (11 + 2 * i + 1) (11 + 2 * i) 3 fX3 := HF.nw F.1 F.2.1 (wfX3 _)
  rw [List.getElem?_set_ne (by omega), get_X3 F3 (by omega), List.getElem?_append_left (by rw [F.2.1]; omega)]
theorem get_X0 {h : qH} (F : HF h 10 9 0 fX0) {j : Nat} (hj : j < 9) : (rX0 h)[j]? = h[j]? := by
  have I0 := HI.z F
  have I1 := I0.nx
  have I2 := I1.nx
  have I3 := I2.nx
  have I4 := I3.nx
  have I5 := I4.nx
  have I6 := I5.nx
  have I7 := I6.nx
  rw [get_rwS I7 (by omega), get_rwS I6 (by omega), get_rwS I5 (by omega), get_rwS I4 (by omega), get_rwS I3 (by omega), get_rwS I2 (by omega), get_rwS I1 (by omega), get_rwS I0 (by omega), gA_get F (by omega) (by omega)]
