/-! the constructors -/
theorem WfV.mono {n m : Nat} (h : n ≤ m) {v : Value} (w : WfV n v) : WfV m v := fun r e => (w r e).imp (fun z => Nat.lt_of_lt_of_le z h) id
theorem WfE.mono {n m : Nat} (h : n ≤ m) {e : qE} (w : WfE n e) : WfE m e := by
  rcases e with ⟨c, l, x⟩ | ⟨c, fs⟩
  · rcases x with f | f | f | f | f
    · trivial
    · trivial
    · trivial
    · trivial
    · exact fun j r e => (w j r e).imp (fun z => Nat.lt_of_lt_of_le z h) id
  · exact fun v hv => (w v hv).mono h
theorem Wf.app {h : qH} {n : Nat} (hn : h.length = n) (w : Wf h) {c : qE} (hc : WfE (n + 1) c) : Wf (h ++ [c]) := by
  intro k e he
  have hl : (h ++ [c]).length = n + 1 := by rw [List.length_append, hn]; rfl
  rw [hl]
  rcases Nat.lt_or_ge k h.length with z | z
  · rw [List.getElem?_append_left z] at he
    have w1 := w k e he
    rw [hn] at w1
    exact w1.mono (Nat.le_succ n)
  · rw [List.getElem?_append_right z] at he
    have e1 : e = c := by
      cases q : k - h.length with
      | zero => rw [q] at he; exact (Option.some.inj he).symm
      | succ m => rw [q] at he; cases he
    rw [e1]; exact hc
theorem Wf.set {h : qH} {n : Nat} (hn : h.length = n) (w : Wf h) (k : Nat) {c : qE} (hc : WfE n c) : Wf (h.set k c) := by
  intro i e he
  rw [List.length_set, hn]
  rw [List.getElem?_set] at he
  split at he
  · split at he
    · cases he; exact hc
    · cases he
  · have w1 := w i e he
    rw [hn] at w1
    exact w1
def HF (h : qH) (K b ci : Nat) (fs : List Value) : Prop := Wf h ∧ h.length = K ∧ b < K ∧ h[b]? = some (.inr (ci, fs))
def gA (h : qH) (K b ci : Nat) (fs : List Value) (j : Nat) (c : qE) : qH := (h ++ [c]).set b (.inr (ci, fs.set j (.ref K)))
section HFS
variable {h : qH} {K b ci : Nat} {fs : List Value}
theorem HF.fsw (F : HF h K b ci fs) : ∀ v ∈ fs, WfV K v := by
  have w := F.1 b _ F.2.2.2
  rw [F.2.1] at w
  exact w
theorem wf_set {n j : Nat} {v : Value} (w : ∀ v ∈ fs, WfV n v) (hv : WfV n v) : ∀ u ∈ fs.set j v, WfV n u := fun u hu => by
  rcases List.mem_or_eq_of_mem_set hu with z | z
  · exact w u z
  · rw [z]; exact hv
theorem wfv_ref {n r : Nat} (h : r < n) : WfV n (.ref r) := fun q e => by cases e; exact Or.inl h
theorem wf1 {n r : Nat} (h : r < n) : ∀ v ∈ [Value.ref r], WfV n v := fun v hv => by rw [List.mem_singleton.mp hv]; exact wfv_ref h
theorem wfl1 {n r : Nat} (h : r < n) : ∀ q ∈ [((0 : Nat), Value.ref r)], WfV n q.2 := fun v hv => by rw [List.mem_singleton.mp hv]; exact wfv_ref h
theorem HF.lt (F : HF h K b ci fs) (c : qE) : (h ++ [c]).length = K + 1 := by rw [List.length_append, F.2.1]; rfl
theorem HF.gt (F : HF h K b ci fs) (c : qE) : (h ++ [c])[b]? = some (.inr (ci, fs)) := by rw [List.getElem?_append_left (by rw [F.2.1]; exact F.2.2.1)]; exact F.2.2.2
theorem HF.ga (F : HF h K b ci fs) {c : qE} (hc : WfE (K + 1) c) (j : Nat) : HF (gA h K b ci fs j c) (K + 1) b ci (fs.set j (.ref K)) := by
  refine ⟨Wf.set (F.lt c) (F.1.app F.2.1 hc) b (wf_set (fun v hv => (F.fsw v hv).mono (Nat.le_succ K)) (wfv_ref (Nat.lt_succ_self K))), by unfold gA; rw [List.length_set, F.lt c], Nat.lt_succ_of_lt F.2.2.1, ?_⟩
  unfold gA
  rw [List.getElem?_set_self (by rw [F.lt c]; exact Nat.lt_succ_of_lt F.2.2.1)]
theorem gA_get (F : HF h K b ci fs) {c : qE} {j i : Nat} (hi : i < K) (hib : i ≠ b) : (gA h K b ci fs j c)[i]? = h[i]? := by
  unfold gA
  rw [List.getElem?_set_ne (Ne.symm hib), List.getElem?_append_left (by rw [F.2.1]; exact hi)]
theorem HF.si (F : HF h K b ci fs) (j : Nat) (x : Int32) : HF (h.set b (.inr (ci, fs.set j (.int x)))) K b ci (fs.set j (.int x)) :=
  ⟨Wf.set F.2.1 F.1 b (wf_set F.fsw (fun r e => by cases e)), by rw [List.length_set, F.2.1], F.2.2.1, by rw [List.getElem?_set_self (by rw [F.2.1]; exact F.2.2.1)]⟩
theorem HF.nw (hw : Wf h) (hk : h.length = K) (hfs : ∀ v ∈ fs, WfV (K + 1) v) : HF (h ++ [.inr (ci, fs)]) (K + 1) K ci fs :=
  ⟨hw.app hk hfs, by rw [List.length_append, hk]; rfl, Nat.lt_succ_self K, by rw [List.getElem?_append_right (by omega), hk, Nat.sub_self]; rfl⟩
end HFS
section CTOR
variable {X0 X : qX} {M : qM} {nc ns pc : Nat} {h : qH}
theorem x_fI (C : qC X M) (G : Grown X0 X nc ns) (I0 : qInit X0) {K b ci n idx N : Nat} {fs : List Value} {R : String} {T : u_T} {ty : Nat → FieldType} (F : HF h K b ci fs) (hK : K < 900) (qk : qCls ci R T N ty) (j : Nat) (hn : n < 100000) (hc1 : nc + 1 ≤ M.2.2.2.2.cells) (hs1 : ns + n ≤ M.2.2.2.2.slots) (hd : decode M.2.1 pc = .ok (.newarray .int, 2)) (hd2 : decode M.2.1 (pc + 2) = .ok (.putfield idx, 3)) (hj : j < N) (hlk : Cond.fieldLink M.1.cls idx (T j).1 (T j).2.1 (T j).2.2.1 ∈ qT) (hfin : (T j).2.2.2 = true) (hdecl : (T j).1 = M.1.cls) (hpd : parseFieldDescriptor (T j).2.2.1 = some (.array .int)) (hf : j < fs.length)
    (kk : ∀ X1, qC X1 M → Grown X0 X1 (nc + 1) (ns + n) → Ex X1 M (pc + 2 + 3) [(0, .ref b)] [] (gA h K b ci fs j (qB0 n (fun _ => 0)))) : Ex X M pc [(0, .ref b)] [.int (nI n), .ref b] h := by
  refine x_newI C G F.2.1 (by omega) F.1 (wfl1 F.2.2.1) (wf1 F.2.2.1) hn hc1 hs1 hd (fun X1 C1 G1 => ?_)
  refine x_putR C1 G1 I0 qk j hj hlk hfin hdecl hpd (fun a => rfl) (fun a => rfl) hd2 (F.gt _) hf ?_
  exact kk X1 C1 G1
theorem x_fC (C : qC X M) (G : Grown X0 X nc ns) (I0 : qInit X0) {K b ci n idx N : Nat} {fs : List Value} {R : String} {T : u_T} {ty : Nat → FieldType} (F : HF h K b ci fs) (hK : K < 900) (qk : qCls ci R T N ty) (j : Nat) (hn : n < 100000) (hc1 : nc + 1 ≤ M.2.2.2.2.cells) (hs1 : ns + n ≤ M.2.2.2.2.slots) (hd : decode M.2.1 pc = .ok (.newarray .char, 2)) (hd2 : decode M.2.1 (pc + 2) = .ok (.putfield idx, 3)) (hj : j < N) (hlk : Cond.fieldLink M.1.cls idx (T j).1 (T j).2.1 (T j).2.2.1 ∈ qT) (hfin : (T j).2.2.2 = true) (hdecl : (T j).1 = M.1.cls) (hpd : parseFieldDescriptor (T j).2.2.1 = some (.array .char)) (hf : j < fs.length)
    (kk : ∀ X1, qC X1 M → Grown X0 X1 (nc + 1) (ns + n) → Ex X1 M (pc + 2 + 3) [(0, .ref b)] [] (gA h K b ci fs j (qB1 n (fun _ => 0)))) : Ex X M pc [(0, .ref b)] [.int (nI n), .ref b] h := by
  refine x_newC C G F.2.1 (by omega) F.1 (wfl1 F.2.2.1) (wf1 F.2.2.1) hn hc1 hs1 hd (fun X1 C1 G1 => ?_)
  refine x_putR C1 G1 I0 qk j hj hlk hfin hdecl hpd (fun a => rfl) (fun a => rfl) hd2 (F.gt _) hf ?_
  exact kk X1 C1 G1
end CTOR
def nrf (v : Value) : Bool := match v with | .ref _ => false | _ => true
theorem nrf_wf {fs : List Value} (h : fs.all nrf = true) {n : Nat} : ∀ v ∈ fs, WfV n v := fun v hv r e => by
  have q := List.all_eq_true.mp h v hv
  rw [e] at q
  cases q
abbrev fX0 : List Value := [.null, .int (nI 0), .int (nI 0)]
theorem dfX0 : ∀ j, j < 3 → defaultValue (tyX0 j) = vp_V fX0 j
  | 0, _ => rfl
  | 1, _ => rfl
  | 2, _ => rfl
  | j + 3, z => absurd z (by omega)
theorem wfX0 (n : Nat) : ∀ v ∈ fX0, WfV n v := nrf_wf rfl
abbrev MX0_init : qM := (yX0_init, cX0_init, 2, none, { frames := 2, cells := 17, slots := 248, locals := 40 })
theorem nX0_init : qInC MX0_init 17 248 := ⟨qT_in 109 (by decide +kernel) rfl, qT_in 57 (by decide +kernel) rfl, ⟨by decide +kernel, by decide +kernel⟩, rfl, rfl, rfl, qT_in 108 (by decide +kernel) rfl, rfl⟩
theorem aX0_init : qAr MX0_init 0 := by unfold qAr; decide +kernel
theorem oX0_init : Cond.methodLink MX0_init.1.cls 3 Lib.objectInit ∈ qT := qT_in 110 (by decide +kernel) rfl
abbrev fX1 : List Value := [.null, .int (nI 0)]
theorem dfX1 : ∀ j, j < 2 → defaultValue (tyX1 j) = vp_V fX1 j
  | 0, _ => rfl
  | 1, _ => rfl
  | j + 2, z => absurd z (by omega)
theorem wfX1 (n : Nat) : ∀ v ∈ fX1, WfV n v := nrf_wf rfl
abbrev MX1_init : qM := (yX1_init, cX1_init, 1, none, { frames := 1, cells := 1, slots := 29, locals := 20 })
theorem nX1_init : qInC MX1_init 1 29 := ⟨qT_in 140 (by decide +kernel) rfl, qT_in 59 (by decide +kernel) rfl, ⟨by decide +kernel, by decide +kernel⟩, rfl, rfl, rfl, qT_in 139 (by decide +kernel) rfl, rfl⟩
theorem aX1_init : qAr MX1_init 0 := by unfold qAr; decide +kernel
theorem oX1_init : Cond.methodLink MX1_init.1.cls 3 Lib.objectInit ∈ qT := qT_in 141 (by decide +kernel) rfl
abbrev fX2 : List Value := [.null]
theorem dfX2 : ∀ j, j < 1 → defaultValue (tyX2 j) = vp_V fX2 j
  | 0, _ => rfl
  | j + 1, z => absurd z (by omega)
theorem wfX2 (n : Nat) : ∀ v ∈ fX2, WfV n v := nrf_wf rfl
abbrev MX2_init : qM := (yX2_init, cX2_init, 1, none, { frames := 1, cells := 1, slots := 25, locals := 20 })
theorem nX2_init : qInC MX2_init 1 25 := ⟨qT_in 129 (by decide +kernel) rfl, qT_in 58 (by decide +kernel) rfl, ⟨by decide +kernel, by decide +kernel⟩, rfl, rfl, rfl, qT_in 128 (by decide +kernel) rfl, rfl⟩
theorem aX2_init : qAr MX2_init 0 := by unfold qAr; decide +kernel
theorem oX2_init : Cond.methodLink MX2_init.1.cls 3 Lib.objectInit ∈ qT := qT_in 130 (by decide +kernel) rfl
abbrev fX3 : List Value := [.null, .int (nI 0), .int (nI 0), .int (nI 0), .int (nI 0)]
theorem dfX3 : ∀ j, j < 5 → defaultValue (tyX3 j) = vp_V fX3 j
  | 0, _ => rfl
  | 1, _ => rfl
  | 2, _ => rfl
  | 3, _ => rfl
  | 4, _ => rfl
  | j + 5, z => absurd z (by omega)
theorem wfX3 (n : Nat) : ∀ v ∈ fX3, WfV n v := nrf_wf rfl
abbrev MX3_init : qM := (yX3_init, cX3_init, 1, none, { frames := 1, cells := 1, slots := 25, locals := 20 })
theorem nX3_init : qInC MX3_init 1 25 := ⟨qT_in 82 (by decide +kernel) rfl, qT_in 56 (by decide +kernel) rfl, ⟨by decide +kernel, by decide +kernel⟩, rfl, rfl, rfl, qT_in 81 (by decide +kernel) rfl, rfl⟩
theorem aX3_init : qAr MX3_init 0 := by unfold qAr; decide +kernel
theorem oX3_init : Cond.methodLink MX3_init.1.cls 3 Lib.objectInit ∈ qT := qT_in 83 (by decide +kernel) rfl
abbrev fX4 : List Value := [.null, .int (nI 0), .null, .null, .null, .int (nI 0), .int (nI 0), .int (nI 0), .int (nI 0), .int (nI 0)]
theorem dfX4 : ∀ j, j < 10 → defaultValue (tyX4 j) = vp_V fX4 j
  | 0, _ => rfl
  | 1, _ => rfl
  | 2, _ => rfl
  | 3, _ => rfl
  | 4, _ => rfl
  | 5, _ => rfl
  | 6, _ => rfl
  | 7, _ => rfl
  | 8, _ => rfl
  | 9, _ => rfl
  | j + 10, z => absurd z (by omega)
theorem wfX4 (n : Nat) : ∀ v ∈ fX4, WfV n v := nrf_wf rfl
abbrev MX4_init : qM := (yX4_init, cX4_init, 1, none, { frames := 1, cells := 4, slots := 175, locals := 20 })
theorem nX4_init : qInC MX4_init 4 175 := ⟨qT_in 154 (by decide +kernel) rfl, qT_in 60 (by decide +kernel) rfl, ⟨by decide +kernel, by decide +kernel⟩, rfl, rfl, rfl, qT_in 153 (by decide +kernel) rfl, rfl⟩
theorem aX4_init : qAr MX4_init 0 := by unfold qAr; decide +kernel
theorem oX4_init : Cond.methodLink MX4_init.1.cls 3 Lib.objectInit ∈ qT := qT_in 155 (by decide +kernel) rfl
abbrev fX5 : List Value := [.null, .null, .null, .null, .int (nI 0), .null, .null, .null, .null, .null, .null, .null, .int (nI 0), .int (nI 0), .int (nI 0), .int (nI 0)]
theorem dfX5 : ∀ j, j < 16 → defaultValue (tyX5 j) = vp_V fX5 j
  | 0, _ => rfl
  | 1, _ => rfl
  | 2, _ => rfl
  | 3, _ => rfl
  | 4, _ => rfl
  | 5, _ => rfl
  | 6, _ => rfl
  | 7, _ => rfl
  | 8, _ => rfl
  | 9, _ => rfl
  | 10, _ => rfl
  | 11, _ => rfl
  | 12, _ => rfl
  | 13, _ => rfl
  | 14, _ => rfl
  | 15, _ => rfl
  | j + 16, z => absurd z (by omega)
theorem wfX5 (n : Nat) : ∀ v ∈ fX5, WfV n v := nrf_wf rfl
abbrev MX5_init : qM := (yX5_init, cX5_init, 1, none, { frames := 3, cells := 39, slots := 668, locals := 61 })
theorem nX5_init : qInC MX5_init 39 668 := ⟨qT_in 74 (by decide +kernel) rfl, qT_in 55 (by decide +kernel) rfl, ⟨by decide +kernel, by decide +kernel⟩, rfl, rfl, rfl, qT_in 73 (by decide +kernel) rfl, rfl⟩
theorem aX5_init : qAr MX5_init 0 := by unfold qAr; decide +kernel
theorem oX5_init : Cond.methodLink MX5_init.1.cls 3 Lib.objectInit ∈ qT := qT_in 75 (by decide +kernel) rfl
abbrev fX6 : List Value := [.null, .null, .null, .int (nI 0), .null, .int (nI 0), .int (nI 0), .int (nI 0), .int (nI 0), .int (nI 0), .null, .int (nI 0), .null, .null, .null, .int (nI 0), .null, .int (nI 0), .int (nI 0), .int (nI 0), .null, .int (nI 0)]
theorem dfX6 : ∀ j, j < 22 → defaultValue (tyX6 j) = vp_V fX6 j
  | 0, _ => rfl
  | 1, _ => rfl
  | 2, _ => rfl
  | 3, _ => rfl
  | 4, _ => rfl
  | 5, _ => rfl
  | 6, _ => rfl
  | 7, _ => rfl
  | 8, _ => rfl
  | 9, _ => rfl
  | 10, _ => rfl
  | 11, _ => rfl
  | 12, _ => rfl
  | 13, _ => rfl
  | 14, _ => rfl
  | 15, _ => rfl
  | 16, _ => rfl
  | 17, _ => rfl
  | 18, _ => rfl
  | 19, _ => rfl
  | 20, _ => rfl
  | 21, _ => rfl
  | j + 22, z => absurd z (by omega)
theorem wfX6 (n : Nat) : ∀ v ∈ fX6, WfV n v := nrf_wf rfl
abbrev MX6_init : qM := (yX6_init, cX6_init, 1, none, { frames := 1, cells := 10, slots := 1264, locals := 20 })
theorem nX6_init : qInC MX6_init 10 1264 := ⟨qT_in 760 (by decide +kernel) rfl, qT_in 61 (by decide +kernel) rfl, ⟨by decide +kernel, by decide +kernel⟩, rfl, rfl, rfl, qT_in 759 (by decide +kernel) rfl, rfl⟩
theorem aX6_init : qAr MX6_init 0 := by unfold qAr; decide +kernel
theorem oX6_init : Cond.methodLink MX6_init.1.cls 3 Lib.objectInit ∈ qT := qT_in 761 (by decide +kernel) rfl
abbrev rX3 (h : qH) (K b : Nat) : qH := (gA h K b 3 fX3 0 (qB0 25 (fun _ => 0)))
set_option maxHeartbeats 4000000 in
set_option maxRecDepth 100000 in
theorem okC_X3 {h : qH} {K b : Nat} (F : HF h K b 3 fX3) (hK : K < 800) : OkC MX3_init [.ref b] h (rX3 h K b) 1 25 := by
  refine okC_of (by decide +kernel) rfl (Nat.le_of_ble_eq_true rfl) rfl ?_
  intro X C I0 AO G E
  show Ex X MX3_init 0 [(0, .ref b)] [] h
  refine x_aload_n C dX3_init_0 rfl ?_
  refine x_obj C oX3_init ⟨(Nat.le_of_ble_eq_true rfl), (Nat.le_of_ble_eq_true rfl)⟩ (Nat.le_of_ble_eq_true rfl) dX3_init_1 ?_
  refine x_aload_n C dX3_init_4 rfl ?_
  refine x_bipush C (v := nI 25) dX3_init_5 (by decide +kernel) ?_
  refine x_fI C G I0 (n := 25) F (by omega) qk3 0 (by decide) (Nat.le_of_ble_eq_true rfl) (Nat.le_of_ble_eq_true rfl) dX3_init_7 dX3_init_9 (by decide) lfX3_9 rfl rfl (by decide +kernel) (Nat.le_of_ble_eq_true rfl) (fun X1 C G => ?_)
  replace F := F.ga (c := (qB0 25 (fun _ => 0))) trivial 0
  exact E X1 G 12 _ dX3_init_12
theorem hf_X3 {h : qH} {K b : Nat} (F : HF h K b 3 fX3) : HF (rX3 h K b) (K + 1) b 3 (fX3.set 0 (.ref K)) := by
  replace F := F.ga (c := (qB0 25 (fun _ => 0))) trivial 0
  exact F
theorem get_X3 {h : qH} {K b i : Nat} (F : HF h K b 3 fX3) (hi : i < b) : (rX3 h K b)[i]? = h[i]? := by
  have hb := F.2.2.1
  unfold rX3 gA
  simp only [List.getElem?_set_ne (show b ≠ i by omega), List.getElem?_append, List.length_append, List.length_set, F.2.1, List.length_cons, List.length_nil]
  simp only [show i < K by omega, if_true, if_pos]
abbrev rX2 (h : qH) (K b : Nat) : qH := (gA h K b 2 fX2 0 (qB0 25 (fun _ => 0)))
set_option maxHeartbeats 4000000 in
set_option maxRecDepth 100000 in
theorem okC_X2 {h : qH} {K b : Nat} (F : HF h K b 2 fX2) (hK : K < 800) : OkC MX2_init [.ref b] h (rX2 h K b) 1 25 := by
  refine okC_of (by decide +kernel) rfl (Nat.le_of_ble_eq_true rfl) rfl ?_
  intro X C I0 AO G E
  show Ex X MX2_init 0 [(0, .ref b)] [] h
  refine x_aload_n C dX2_init_0 rfl ?_
  refine x_obj C oX2_init ⟨(Nat.le_of_ble_eq_true rfl), (Nat.le_of_ble_eq_true rfl)⟩ (Nat.le_of_ble_eq_true rfl) dX2_init_1 ?_
  refine x_aload_n C dX2_init_4 rfl ?_
  refine x_bipush C (v := nI 25) dX2_init_5 (by decide +kernel) ?_
  refine x_fI C G I0 (n := 25) F (by omega) qk2 0 (by decide) (Nat.le_of_ble_eq_true rfl) (Nat.le_of_ble_eq_true rfl) dX2_init_7 dX2_init_9 (by decide) lfX2_9 rfl rfl (by decide +kernel) (Nat.le_of_ble_eq_true rfl) (fun X1 C G => ?_)
  replace F := F.ga (c := (qB0 25 (fun _ => 0))) trivial 0
  exact E X1 G 12 _ dX2_init_12
theorem hf_X2 {h : qH} {K b : Nat} (F : HF h K b 2 fX2) : HF (rX2 h K b) (K + 1) b 2 (fX2.set 0 (.ref K)) := by
  replace F := F.ga (c := (qB0 25 (fun _ => 0))) trivial 0
  exact F
theorem get_X2 {h : qH} {K b i : Nat} (F : HF h K b 2 fX2) (hi : i < b) : (rX2 h K b)[i]? = h[i]? := by
  have hb := F.2.2.1
  unfold rX2 gA
  simp only [List.getElem?_set_ne (show b ≠ i by omega), List.getElem?_append, List.length_append, List.length_set, F.2.1, List.length_cons, List.length_nil]
  simp only [show i < K by omega, if_true, if_pos]
abbrev rX1 (h : qH) (K b : Nat) : qH := (gA h K b 1 fX1 0 (qB0 29 (fun _ => 0)))
set_option maxHeartbeats 4000000 in
set_option maxRecDepth 100000 in
theorem okC_X1 {h : qH} {K b : Nat} (F : HF h K b 1 fX1) (hK : K < 800) : OkC MX1_init [.ref b] h (rX1 h K b) 1 29 := by
  refine okC_of (by decide +kernel) rfl (Nat.le_of_ble_eq_true rfl) rfl ?_
  intro X C I0 AO G E
  show Ex X MX1_init 0 [(0, .ref b)] [] h
  refine x_aload_n C dX1_init_0 rfl ?_
  refine x_obj C oX1_init ⟨(Nat.le_of_ble_eq_true rfl), (Nat.le_of_ble_eq_true rfl)⟩ (Nat.le_of_ble_eq_true rfl) dX1_init_1 ?_
  refine x_aload_n C dX1_init_4 rfl ?_
  refine x_bipush C (v := nI 29) dX1_init_5 (by decide +kernel) ?_
  refine x_fI C G I0 (n := 29) F (by omega) qk1 0 (by decide) (Nat.le_of_ble_eq_true rfl) (Nat.le_of_ble_eq_true rfl) dX1_init_7 dX1_init_9 (by decide) lfX1_9 rfl rfl (by decide +kernel) (Nat.le_of_ble_eq_true rfl) (fun X1 C G => ?_)
  replace F := F.ga (c := (qB0 29 (fun _ => 0))) trivial 0
  exact E X1 G 12 _ dX1_init_12
theorem hf_X1 {h : qH} {K b : Nat} (F : HF h K b 1 fX1) : HF (rX1 h K b) (K + 1) b 1 (fX1.set 0 (.ref K)) := by
  replace F := F.ga (c := (qB0 29 (fun _ => 0))) trivial 0
  exact F
theorem get_X1 {h : qH} {K b i : Nat} (F : HF h K b 1 fX1) (hi : i < b) : (rX1 h K b)[i]? = h[i]? := by
  have hb := F.2.2.1
  unfold rX1 gA
  simp only [List.getElem?_set_ne (show b ≠ i by omega), List.getElem?_append, List.length_append, List.length_set, F.2.1, List.length_cons, List.length_nil]
  simp only [show i < K by omega, if_true, if_pos]
abbrev rX4 (h : qH) (K b : Nat) : qH := (gA (gA (gA (gA h K b 4 fX4 0 (qB0 70 (fun _ => 0))) (K + 1) b 4 (fX4.set 0 (.ref K)) 2 (qB0 35 (fun _ => 0))) (K + 2) b 4 ((fX4.set 0 (.ref K)).set 2 (.ref (K + 1))) 3 (qB0 35 (fun _ => 0))) (K + 3) b 4 (((fX4.set 0 (.ref K)).set 2 (.ref (K + 1))).set 3 (.ref (K + 2))) 4 (qB0 35 (fun _ => 0)))
set_option maxHeartbeats 4000000 in
set_option maxRecDepth 100000 in
theorem okC_X4 {h : qH} {K b : Nat} (F : HF h K b 4 fX4) (hK : K < 800) : OkC MX4_init [.ref b] h (rX4 h K b) 4 175 := by
  refine okC_of (by decide +kernel) rfl (Nat.le_of_ble_eq_true rfl) rfl ?_
  intro X C I0 AO G E
  show Ex X MX4_init 0 [(0, .ref b)] [] h
  refine x_aload_n C dX4_init_0 rfl ?_
  refine x_obj C oX4_init ⟨(Nat.le_of_ble_eq_true rfl), (Nat.le_of_ble_eq_true rfl)⟩ (Nat.le_of_ble_eq_true rfl) dX4_init_1 ?_
  refine x_aload_n C dX4_init_4 rfl ?_
  refine x_bipush C (v := nI 70) dX4_init_5 (by decide +kernel) ?_
  refine x_fI C G I0 (n := 70) F (by omega) qk4 0 (by decide) (Nat.le_of_ble_eq_true rfl) (Nat.le_of_ble_eq_true rfl) dX4_init_7 dX4_init_9 (by decide) lfX4_9 rfl rfl (by decide +kernel) (Nat.le_of_ble_eq_true rfl) (fun X1 C G => ?_)
  replace F := F.ga (c := (qB0 70 (fun _ => 0))) trivial 0
  refine x_aload_n C dX4_init_12 rfl ?_
  refine x_bipush C (v := nI 35) dX4_init_13 (by decide +kernel) ?_
  refine x_fI C G I0 (n := 35) F (by omega) qk4 2 (by decide) (Nat.le_of_ble_eq_true rfl) (Nat.le_of_ble_eq_true rfl) dX4_init_15 dX4_init_17 (by decide) lfX4_15 rfl rfl (by decide +kernel) (Nat.le_of_ble_eq_true rfl) (fun X1 C G => ?_)
  replace F := F.ga (c := (qB0 35 (fun _ => 0))) trivial 2
  refine x_aload_n C dX4_init_20 rfl ?_
  refine x_bipush C (v := nI 35) dX4_init_21 (by decide +kernel) ?_
  refine x_fI C G I0 (n := 35) F (by omega) qk4 3 (by decide) (Nat.le_of_ble_eq_true rfl) (Nat.le_of_ble_eq_true rfl) dX4_init_23 dX4_init_25 (by decide) lfX4_18 rfl rfl (by decide +kernel) (Nat.le_of_ble_eq_true rfl) (fun X1 C G => ?_)
  replace F := F.ga (c := (qB0 35 (fun _ => 0))) trivial 3
  refine x_aload_n C dX4_init_28 rfl ?_
  refine x_bipush C (v := nI 35) dX4_init_29 (by decide +kernel) ?_
  refine x_fI C G I0 (n := 35) F (by omega) qk4 4 (by decide) (Nat.le_of_ble_eq_true rfl) (Nat.le_of_ble_eq_true rfl) dX4_init_31 dX4_init_33 (by decide) lfX4_21 rfl rfl (by decide +kernel) (Nat.le_of_ble_eq_true rfl) (fun X1 C G => ?_)
  replace F := F.ga (c := (qB0 35 (fun _ => 0))) trivial 4
  exact E X1 G 36 _ dX4_init_36
theorem hf_X4 {h : qH} {K b : Nat} (F : HF h K b 4 fX4) : HF (rX4 h K b) (K + 4) b 4 ((((fX4.set 0 (.ref K)).set 2 (.ref (K + 1))).set 3 (.ref (K + 2))).set 4 (.ref (K + 3))) := by
  replace F := F.ga (c := (qB0 70 (fun _ => 0))) trivial 0
  replace F := F.ga (c := (qB0 35 (fun _ => 0))) trivial 2
  replace F := F.ga (c := (qB0 35 (fun _ => 0))) trivial 3
  replace F := F.ga (c := (qB0 35 (fun _ => 0))) trivial 4
  exact F
theorem get_X4 {h : qH} {K b i : Nat} (F : HF h K b 4 fX4) (hi : i < b) : (rX4 h K b)[i]? = h[i]? := by
  have hb := F.2.2.1
  unfold rX4 gA
  simp only [List.getElem?_set_ne (show b ≠ i by omega), List.getElem?_append, List.length_append, List.length_set, F.2.1, List.length_cons, List.length_nil]
  simp only [show i < K by omega, show i < K + 1 by omega, show i < K + 2 by omega, show i < K + 3 by omega, if_true, if_pos]
abbrev rX6 (h : qH) (K b : Nat) : qH := (gA (gA (gA (gA (gA (gA ((gA (gA (gA (gA h K b 6 fX6 0 (qB0 29 (fun _ => 0))) (K + 1) b 6 (fX6.set 0 (.ref K)) 1 (qB0 29 (fun _ => 0))) (K + 2) b 6 ((fX6.set 0 (.ref K)).set 1 (.ref (K + 1))) 2 (qB0 29 (fun _ => 0))) (K + 3) b 6 (((fX6.set 0 (.ref K)).set 1 (.ref (K + 1))).set 2 (.ref (K + 2))) 4 (qB0 232 (fun _ => 0))).set b (.inr (6, ((((fX6.set 0 (.ref K)).set 1 (.ref (K + 1))).set 2 (.ref (K + 2))).set 4 (.ref (K + 3))).set 8 (.int (-4))))) (K + 4) b 6 (((((fX6.set 0 (.ref K)).set 1 (.ref (K + 1))).set 2 (.ref (K + 2))).set 4 (.ref (K + 3))).set 8 (.int (-4))) 10 (qB0 300 (fun _ => 0))) (K + 5) b 6 ((((((fX6.set 0 (.ref K)).set 1 (.ref (K + 1))).set 2 (.ref (K + 2))).set 4 (.ref (K + 3))).set 8 (.int (-4))).set 10 (.ref (K + 4))) 12 (qB0 300 (fun _ => 0))) (K + 6) b 6 (((((((fX6.set 0 (.ref K)).set 1 (.ref (K + 1))).set 2 (.ref (K + 2))).set 4 (.ref (K + 3))).set 8 (.int (-4))).set 10 (.ref (K + 4))).set 12 (.ref (K + 5))) 13 (qB0 25 (fun _ => 0))) (K + 7) b 6 ((((((((fX6.set 0 (.ref K)).set 1 (.ref (K + 1))).set 2 (.ref (K + 2))).set 4 (.ref (K + 3))).set 8 (.int (-4))).set 10 (.ref (K + 4))).set 12 (.ref (K + 5))).set 13 (.ref (K + 6))) 14 (qB1 40 (fun _ => 0))) (K + 8) b 6 (((((((((fX6.set 0 (.ref K)).set 1 (.ref (K + 1))).set 2 (.ref (K + 2))).set 4 (.ref (K + 3))).set 8 (.int (-4))).set 10 (.ref (K + 4))).set 12 (.ref (K + 5))).set 13 (.ref (K + 6))).set 14 (.ref (K + 7))) 16 (qB1 70 (fun _ => 0))) (K + 9) b 6 ((((((((((fX6.set 0 (.ref K)).set 1 (.ref (K + 1))).set 2 (.ref (K + 2))).set 4 (.ref (K + 3))).set 8 (.int (-4))).set 10 (.ref (K + 4))).set 12 (.ref (K + 5))).set 13 (.ref (K + 6))).set 14 (.ref (K + 7))).set 16 (.ref (K + 8))) 20 (qB0 210 (fun _ => 0)))
set_option maxHeartbeats 4000000 in
set_option maxRecDepth 100000 in
theorem okC_X6 {h : qH} {K b : Nat} (F : HF h K b 6 fX6) (hK : K < 800) : OkC MX6_init [.ref b] h (rX6 h K b) 10 1264 := by
  refine okC_of (by decide +kernel) rfl (Nat.le_of_ble_eq_true rfl) rfl ?_
  intro X C I0 AO G E
  show Ex X MX6_init 0 [(0, .ref b)] [] h
  refine x_aload_n C dX6_init_0 rfl ?_
  refine x_obj C oX6_init ⟨(Nat.le_of_ble_eq_true rfl), (Nat.le_of_ble_eq_true rfl)⟩ (Nat.le_of_ble_eq_true rfl) dX6_init_1 ?_
  refine x_aload_n C dX6_init_4 rfl ?_
  refine x_bipush C (v := nI 29) dX6_init_5 (by decide +kernel) ?_
  refine x_fI C G I0 (n := 29) F (by omega) qk6 0 (by decide) (Nat.le_of_ble_eq_true rfl) (Nat.le_of_ble_eq_true rfl) dX6_init_7 dX6_init_9 (by decide) lfX6_9 rfl rfl (by decide +kernel) (Nat.le_of_ble_eq_true rfl) (fun X1 C G => ?_)
  replace F := F.ga (c := (qB0 29 (fun _ => 0))) trivial 0
  refine x_aload_n C dX6_init_12 rfl ?_
  refine x_bipush C (v := nI 29) dX6_init_13 (by decide +kernel) ?_
  refine x_fI C G I0 (n := 29) F (by omega) qk6 1 (by decide) (Nat.le_of_ble_eq_true rfl) (Nat.le_of_ble_eq_true rfl) dX6_init_15 dX6_init_17 (by decide) lfX6_13 rfl rfl (by decide +kernel) (Nat.le_of_ble_eq_true rfl) (fun X1 C G => ?_)
  replace F := F.ga (c := (qB0 29 (fun _ => 0))) trivial 1
  refine x_aload_n C dX6_init_20 rfl ?_
  refine x_bipush C (v := nI 29) dX6_init_21 (by decide +kernel) ?_
  refine x_fI C G I0 (n := 29) F (by omega) qk6 2 (by decide) (Nat.le_of_ble_eq_true rfl) (Nat.le_of_ble_eq_true rfl) dX6_init_23 dX6_init_25 (by decide) lfX6_16 rfl rfl (by decide +kernel) (Nat.le_of_ble_eq_true rfl) (fun X1 C G => ?_)
  replace F := F.ga (c := (qB0 29 (fun _ => 0))) trivial 2
  refine x_aload_n C dX6_init_28 rfl ?_
  refine x_sipush C (v := nI 232) dX6_init_29 (by decide +kernel) ?_
  refine x_fI C G I0 (n := 232) F (by omega) qk6 4 (by decide) (Nat.le_of_ble_eq_true rfl) (Nat.le_of_ble_eq_true rfl) dX6_init_32 dX6_init_34 (by decide) lfX6_19 rfl rfl (by decide +kernel) (Nat.le_of_ble_eq_true rfl) (fun X1 C G => ?_)
  replace F := F.ga (c := (qB0 232 (fun _ => 0))) trivial 4
  refine x_aload_n C dX6_init_37 rfl ?_
  refine x_bipush C (v := (-4)) dX6_init_38 (by decide +kernel) ?_
  refine x_putfield C qk6 8 (by decide) lfX6_22 rfl (ty0 := .int) (by decide +kernel) rfl rfl dX6_init_40 F.2.2.2 (Nat.le_of_ble_eq_true rfl) ?_
  replace F := F.si 8 (-4)
  refine x_aload_n C dX6_init_43 rfl ?_
  refine x_sipush C (v := nI 300) dX6_init_44 (by decide +kernel) ?_
  refine x_fI C G I0 (n := 300) F (by omega) qk6 10 (by decide) (Nat.le_of_ble_eq_true rfl) (Nat.le_of_ble_eq_true rfl) dX6_init_47 dX6_init_49 (by decide) lfX6_26 rfl rfl (by decide +kernel) (Nat.le_of_ble_eq_true rfl) (fun X1 C G => ?_)
  replace F := F.ga (c := (qB0 300 (fun _ => 0))) trivial 10
  refine x_aload_n C dX6_init_52 rfl ?_
  refine x_sipush C (v := nI 300) dX6_init_53 (by decide +kernel) ?_
  refine x_fI C G I0 (n := 300) F (by omega) qk6 12 (by decide) (Nat.le_of_ble_eq_true rfl) (Nat.le_of_ble_eq_true rfl) dX6_init_56 dX6_init_58 (by decide) lfX6_29 rfl rfl (by decide +kernel) (Nat.le_of_ble_eq_true rfl) (fun X1 C G => ?_)
  replace F := F.ga (c := (qB0 300 (fun _ => 0))) trivial 12
  refine x_aload_n C dX6_init_61 rfl ?_
  refine x_bipush C (v := nI 25) dX6_init_62 (by decide +kernel) ?_
  refine x_fI C G I0 (n := 25) F (by omega) qk6 13 (by decide) (Nat.le_of_ble_eq_true rfl) (Nat.le_of_ble_eq_true rfl) dX6_init_64 dX6_init_66 (by decide) lfX6_32 rfl rfl (by decide +kernel) (Nat.le_of_ble_eq_true rfl) (fun X1 C G => ?_)
  replace F := F.ga (c := (qB0 25 (fun _ => 0))) trivial 13
  refine x_aload_n C dX6_init_69 rfl ?_
  refine x_bipush C (v := nI 40) dX6_init_70 (by decide +kernel) ?_
  refine x_fC C G I0 (n := 40) F (by omega) qk6 14 (by decide) (Nat.le_of_ble_eq_true rfl) (Nat.le_of_ble_eq_true rfl) dX6_init_72 dX6_init_74 (by decide) lfX6_35 rfl rfl (by decide +kernel) (Nat.le_of_ble_eq_true rfl) (fun X1 C G => ?_)
  replace F := F.ga (c := (qB1 40 (fun _ => 0))) trivial 14
  refine x_aload_n C dX6_init_77 rfl ?_
  refine x_bipush C (v := nI 70) dX6_init_78 (by decide +kernel) ?_
  refine x_fC C G I0 (n := 70) F (by omega) qk6 16 (by decide) (Nat.le_of_ble_eq_true rfl) (Nat.le_of_ble_eq_true rfl) dX6_init_80 dX6_init_82 (by decide) lfX6_39 rfl rfl (by decide +kernel) (Nat.le_of_ble_eq_true rfl) (fun X1 C G => ?_)
  replace F := F.ga (c := (qB1 70 (fun _ => 0))) trivial 16
  refine x_aload_n C dX6_init_85 rfl ?_
  refine x_sipush C (v := nI 210) dX6_init_86 (by decide +kernel) ?_
  refine x_fI C G I0 (n := 210) F (by omega) qk6 20 (by decide) (Nat.le_of_ble_eq_true rfl) (Nat.le_of_ble_eq_true rfl) dX6_init_89 dX6_init_91 (by decide) lfX6_42 rfl rfl (by decide +kernel) (Nat.le_of_ble_eq_true rfl) (fun X1 C G => ?_)
  replace F := F.ga (c := (qB0 210 (fun _ => 0))) trivial 20
  exact E X1 G 94 _ dX6_init_94
theorem hf_X6 {h : qH} {K b : Nat} (F : HF h K b 6 fX6) : HF (rX6 h K b) (K + 10) b 6 (((((((((((fX6.set 0 (.ref K)).set 1 (.ref (K + 1))).set 2 (.ref (K + 2))).set 4 (.ref (K + 3))).set 8 (.int (-4))).set 10 (.ref (K + 4))).set 12 (.ref (K + 5))).set 13 (.ref (K + 6))).set 14 (.ref (K + 7))).set 16 (.ref (K + 8))).set 20 (.ref (K + 9))) := by
  replace F := F.ga (c := (qB0 29 (fun _ => 0))) trivial 0
  replace F := F.ga (c := (qB0 29 (fun _ => 0))) trivial 1
  replace F := F.ga (c := (qB0 29 (fun _ => 0))) trivial 2
  replace F := F.ga (c := (qB0 232 (fun _ => 0))) trivial 4
  replace F := F.si 8 (-4)
  replace F := F.ga (c := (qB0 300 (fun _ => 0))) trivial 10
  replace F := F.ga (c := (qB0 300 (fun _ => 0))) trivial 12
  replace F := F.ga (c := (qB0 25 (fun _ => 0))) trivial 13
  replace F := F.ga (c := (qB1 40 (fun _ => 0))) trivial 14
  replace F := F.ga (c := (qB1 70 (fun _ => 0))) trivial 16
  replace F := F.ga (c := (qB0 210 (fun _ => 0))) trivial 20
  exact F
theorem get_X6 {h : qH} {K b i : Nat} (F : HF h K b 6 fX6) (hi : i < b) : (rX6 h K b)[i]? = h[i]? := by
  have hb := F.2.2.1
  unfold rX6 gA
  simp only [List.getElem?_set_ne (show b ≠ i by omega), List.getElem?_append, List.length_append, List.length_set, F.2.1, List.length_cons, List.length_nil]
  simp only [show i < K by omega, show i < K + 1 by omega, show i < K + 2 by omega, show i < K + 3 by omega, show i < K + 4 by omega, show i < K + 5 by omega, show i < K + 6 by omega, show i < K + 7 by omega, show i < K + 8 by omega, show i < K + 9 by omega, if_true, if_pos]
