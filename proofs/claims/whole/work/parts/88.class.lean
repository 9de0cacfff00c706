/-! the constructor of the class -/
theorem x_fO {X0 X : qX} {nc ns pc : Nat} {h h2 : qH} {NM : qM} {K ci mc ms N ixn ixc ixf : Nat} {fs fs0 : List Value} {R : String} {T : u_T} {ty : Nat → FieldType} (C : qC X MX5_init) (G : Grown X0 X nc ns) (I0 : qInit X0) (AO : qAO X0) (F : HF h K 0 5 fs) (hK : K < 800) (qk : qCls ci R T N ty) (hcl : Cond.classLink MX5_init.1.cls ixn R ∈ qT) (hinst : Cond.instantiable R N ∈ qT) (hini : Cond.initialized R ∈ qT) (hfs : ∀ j, j < N → defaultValue (ty j) = vp_V fs0 j) (hf0 : ∀ f, fs0.map (q_v f) = fs0) (hfw : ∀ n, ∀ v ∈ fs0, WfV n v)
    (mk : HF (h ++ [.inr (ci, fs0)]) (K + 1) K ci fs0 → OkC NM [.ref K] (h ++ [.inr (ci, fs0)]) h2 mc ms ∧ Wf h2 ∧ h2.length = K + 1 + mc ∧ h2[0]? = (h ++ [.inr (ci, fs0)])[0]?)
    (hlk : Cond.methodLinkNest MX5_init.1.cls ixc NM.1 "MateKeys" ∈ qN ∨ Cond.methodLink MX5_init.1.cls ixc NM.1 ∈ qT) (hI : qInC NM mc ms) (har : qAr NM 0) (hrm : qRm MX5_init NM) (hc1 : nc + 1 + mc ≤ 39) (hs1 : ns + N + ms ≤ 668)
    (d1 : decode cX5_init pc = .ok (.new ixn, 3)) (d2 : decode cX5_init (pc + 3) = .ok (.dup, 1)) (d3 : decode cX5_init (pc + 3 + 1) = .ok (.invokespecial ixc, 3)) (d4 : decode cX5_init (pc + 3 + 1 + 3) = .ok (.putfield ixf, 3)) (j : Nat) (hj : j < 16) (hlf : Cond.fieldLink MX5_init.1.cls ixf (TX5 j).1 (TX5 j).2.1 (TX5 j).2.2.1 ∈ qT) (hfin : (TX5 j).2.2.2 = true) (hdecl : (TX5 j).1 = MX5_init.1.cls) {Cn : String} (hpd : parseFieldDescriptor (TX5 j).2.2.1 = some (.object Cn)) (hf : j < fs.length)
    (kk : ∀ X1, qC X1 MX5_init → Grown X0 X1 (nc + 1 + mc) (ns + N + ms) → HF (h2.set 0 (.inr (5, fs.set j (.ref K)))) (K + 1 + mc) 0 5 (fs.set j (.ref K)) → Ex X1 MX5_init (pc + 3 + 1 + 3 + 3) [(0, .ref 0)] [] (h2.set 0 (.inr (5, fs.set j (.ref K))))) : Ex X MX5_init pc [(0, .ref 0)] [.ref 0] h := by
  have hb := F.2.2.1
  have F3 : HF (h ++ [.inr (ci, fs0)]) (K + 1) K ci fs0 := HF.nw F.1 F.2.1 (hfw _)
  obtain ⟨ok, w2, l2, g2⟩ := mk F3
  have g3 : h2[0]? = some (.inr (5, fs)) := g2.trans (F.gt _)
  refine x_new C G F.2.1 (by omega) F.1 (wfl1 hb) (wf1 hb) qk hcl hinst hini hfs hf0 (by show nc + 1 ≤ 39; omega) (by show ns + N ≤ 668; omega) d1 (fun X1 C1 G1 => ?_)
  refine x_dup C1 rfl d2 ?_
  have hst : ∀ v ∈ [Value.ref K, .ref 0], WfV (K + 1) v := fun v hv => by
    rcases List.mem_cons.mp hv with rfl | hv
    · exact wfv_ref (Nat.lt_succ_self K)
    · exact wf1 (Nat.succ_pos K) v hv
  have fin : ∀ X2, qC X2 MX5_init → Grown X0 X2 (nc + 1 + mc) (ns + N + ms) → Ex X2 MX5_init (pc + 3 + 1 + 3) [(0, .ref 0)] [.ref K, .ref 0] h2 := fun X2 C2 G2 => by
    refine x_putR C2 G2 I0 qk5 j hj hlf hfin hdecl hpd (fun a => rfl) (fun a => rfl) d4 g3 hf ?_
    refine kk X2 C2 G2 ⟨Wf.set l2 w2 0 (wf_set (fun v hv => (F.fsw v hv).mono (by omega)) (wfv_ref (by omega))), by rw [List.length_set]; exact l2, by omega, ?_⟩
    rw [List.getElem?_set_self (by rw [l2]; omega)]
  rcases hlk with hlk | hlk
  · exact x_callCN C1 G1 AO ok F3.2.1 l2 (wfl1 (Nat.succ_pos K)) hst hlk hI har hrm (Nat.le_of_ble_eq_true rfl) hc1 hs1 d3 fin
  · exact x_callC C1 G1 AO ok F3.2.1 l2 (wfl1 (Nat.succ_pos K)) hst hlk hI har hrm (Nat.le_of_ble_eq_true rfl) hc1 hs1 d3 fin
theorem hf_O {h h2 : qH} {K ci mc : Nat} {fs fs0 : List Value} (F : HF h K 0 5 fs) (j : Nat) (q : Wf h2 ∧ h2.length = K + 1 + mc ∧ h2[0]? = (h ++ [.inr (ci, fs0)])[0]?) : HF (h2.set 0 (.inr (5, fs.set j (.ref K)))) (K + 1 + mc) 0 5 (fs.set j (.ref K)) := by
  obtain ⟨w2, l2, g2⟩ := q
  refine ⟨Wf.set l2 w2 0 (wf_set (fun v hv => (F.fsw v hv).mono (by omega)) (wfv_ref (by omega))), by rw [List.length_set]; exact l2, by omega, ?_⟩
  rw [List.getElem?_set_self (by rw [l2]; omega)]
theorem clX5_9 : Cond.classLink MX5_init.1.cls 9 "MateKeys$Position" ∈ qT := qT_in 78 (by decide +kernel) rfl
theorem ctI3 : Cond.instantiable "MateKeys$Position" 5 ∈ qT := qT_in 79 (by decide +kernel) rfl
theorem ctZ3 : Cond.initialized "MateKeys$Position" ∈ qT := qT_in 56 (by decide +kernel) rfl
theorem ctL3 : Cond.methodLinkNest MX5_init.1.cls 11 MX3_init.1 "MateKeys" ∈ qN := qN_in 80 (by decide +kernel) rfl
theorem clX5_25 : Cond.classLink MX5_init.1.cls 25 "MateKeys$History" ∈ qT := qT_in 105 (by decide +kernel) rfl
theorem ctI0 : Cond.instantiable "MateKeys$History" 3 ∈ qT := qT_in 106 (by decide +kernel) rfl
theorem ctZ0 : Cond.initialized "MateKeys$History" ∈ qT := qT_in 57 (by decide +kernel) rfl
theorem ctL0 : Cond.methodLink MX5_init.1.cls 27 MX0_init.1 ∈ qT := qT_in 107 (by decide +kernel) rfl
theorem clX5_32 : Cond.classLink MX5_init.1.cls 32 "MateKeys$MoveTable" ∈ qT := qT_in 125 (by decide +kernel) rfl
theorem ctI2 : Cond.instantiable "MateKeys$MoveTable" 1 ∈ qT := qT_in 126 (by decide +kernel) rfl
theorem ctZ2 : Cond.initialized "MateKeys$MoveTable" ∈ qT := qT_in 58 (by decide +kernel) rfl
theorem ctL2 : Cond.methodLinkNest MX5_init.1.cls 34 MX2_init.1 "MateKeys" ∈ qN := qN_in 127 (by decide +kernel) rfl
theorem clX5_49 : Cond.classLink MX5_init.1.cls 49 "MateKeys$Line" ∈ qT := qT_in 136 (by decide +kernel) rfl
theorem ctI1 : Cond.instantiable "MateKeys$Line" 2 ∈ qT := qT_in 137 (by decide +kernel) rfl
theorem ctZ1 : Cond.initialized "MateKeys$Line" ∈ qT := qT_in 59 (by decide +kernel) rfl
theorem ctL1 : Cond.methodLinkNest MX5_init.1.cls 51 MX1_init.1 "MateKeys" ∈ qN := qN_in 138 (by decide +kernel) rfl
theorem clX5_56 : Cond.classLink MX5_init.1.cls 56 "MateKeys$Script" ∈ qT := qT_in 150 (by decide +kernel) rfl
theorem ctI4 : Cond.instantiable "MateKeys$Script" 10 ∈ qT := qT_in 151 (by decide +kernel) rfl
theorem ctZ4 : Cond.initialized "MateKeys$Script" ∈ qT := qT_in 60 (by decide +kernel) rfl
theorem ctL4 : Cond.methodLinkNest MX5_init.1.cls 58 MX4_init.1 "MateKeys" ∈ qN := qN_in 152 (by decide +kernel) rfl
abbrev rX5 (h : qH) : qH := (((rX4 (((rX1 ((gA (gA ((rX2 (((rX2 (((rX0 (((rX3 (((rX3 (((rX3 (((rX3 (h ++ [.inr (3, fX3)]) 2 1).set 0 (.inr (5, fX5.set 0 (.ref 1)))) ++ [.inr (3, fX3)]) 4 3).set 0 (.inr (5, (fX5.set 0 (.ref 1)).set 1 (.ref 3)))) ++ [.inr (3, fX3)]) 6 5).set 0 (.inr (5, ((fX5.set 0 (.ref 1)).set 1 (.ref 3)).set 2 (.ref 5)))) ++ [.inr (3, fX3)]) 8 7).set 0 (.inr (5, (((fX5.set 0 (.ref 1)).set 1 (.ref 3)).set 2 (.ref 5)).set 3 (.ref 7)))) ++ [.inr (0, fX0)])).set 0 (.inr (5, ((((fX5.set 0 (.ref 1)).set 1 (.ref 3)).set 2 (.ref 5)).set 3 (.ref 7)).set 5 (.ref 9)))) ++ [.inr (2, fX2)]) 28 27).set 0 (.inr (5, (((((fX5.set 0 (.ref 1)).set 1 (.ref 3)).set 2 (.ref 5)).set 3 (.ref 7)).set 5 (.ref 9)).set 6 (.ref 27)))) ++ [.inr (2, fX2)]) 30 29).set 0 (.inr (5, ((((((fX5.set 0 (.ref 1)).set 1 (.ref 3)).set 2 (.ref 5)).set 3 (.ref 7)).set 5 (.ref 9)).set 6 (.ref 27)).set 7 (.ref 29)))) 31 0 5 (((((((fX5.set 0 (.ref 1)).set 1 (.ref 3)).set 2 (.ref 5)).set 3 (.ref 7)).set 5 (.ref 9)).set 6 (.ref 27)).set 7 (.ref 29)) 8 (qB0 4 (fun _ => 0))) 32 0 5 ((((((((fX5.set 0 (.ref 1)).set 1 (.ref 3)).set 2 (.ref 5)).set 3 (.ref 7)).set 5 (.ref 9)).set 6 (.ref 27)).set 7 (.ref 29)).set 8 (.ref 31)) 9 (qB0 25 (fun _ => 0))) ++ [.inr (1, fX1)]) 34 33).set 0 (.inr (5, (((((((((fX5.set 0 (.ref 1)).set 1 (.ref 3)).set 2 (.ref 5)).set 3 (.ref 7)).set 5 (.ref 9)).set 6 (.ref 27)).set 7 (.ref 29)).set 8 (.ref 31)).set 9 (.ref 32)).set 10 (.ref 33)))) ++ [.inr (4, fX4)]) 36 35).set 0 (.inr (5, ((((((((((fX5.set 0 (.ref 1)).set 1 (.ref 3)).set 2 (.ref 5)).set 3 (.ref 7)).set 5 (.ref 9)).set 6 (.ref 27)).set 7 (.ref 29)).set 8 (.ref 31)).set 9 (.ref 32)).set 10 (.ref 33)).set 11 (.ref 35)))).set 0 (.inr (5, (((((((((((fX5.set 0 (.ref 1)).set 1 (.ref 3)).set 2 (.ref 5)).set 3 (.ref 7)).set 5 (.ref 9)).set 6 (.ref 27)).set 7 (.ref 29)).set 8 (.ref 31)).set 9 (.ref 32)).set 10 (.ref 33)).set 11 (.ref 35)).set 12 (.int (-4)))))
set_option maxHeartbeats 4000000 in
set_option maxRecDepth 100000 in
theorem okC_X5 {h : qH} (F : HF h 1 0 5 fX5) : OkC MX5_init [.ref 0] h (rX5 h) 39 668 := by
  refine okC_of (by decide +kernel) rfl (Nat.le_of_ble_eq_true rfl) rfl ?_
  intro X C I0 AO G E
  show Ex X MX5_init 0 [(0, .ref 0)] [] h
  refine x_aload_n C dX5_init_0 rfl ?_
  refine x_obj C oX5_init ⟨(Nat.le_of_ble_eq_true rfl), (Nat.le_of_ble_eq_true rfl)⟩ (Nat.le_of_ble_eq_true rfl) dX5_init_1 ?_
  refine x_aload_n C dX5_init_4 rfl ?_
  refine x_fO C G I0 AO F (by decide) qk3 clX5_9 ctI3 ctZ3 dfX3 (fun f => rfl) wfX3 (fun F3 => ⟨okC_X3 F3 (by decide), (hf_X3 F3).1, (hf_X3 F3).2.1, get_X3 F3 (by decide)⟩) (Or.inl ctL3) nX3_init aX3_init ⟨(Nat.le_of_ble_eq_true rfl), (Nat.le_of_ble_eq_true rfl)⟩ (Nat.le_of_ble_eq_true rfl) (Nat.le_of_ble_eq_true rfl) dX5_init_5 dX5_init_8 dX5_init_9 dX5_init_12 0 (by decide) lfX5_12 rfl rfl (Cn := "MateKeys$Position") (by decide +kernel) (Nat.le_of_ble_eq_true rfl) (fun X1 C G F => ?_)
  refine x_aload_n C dX5_init_15 rfl ?_
  refine x_fO C G I0 AO F (by decide) qk3 clX5_9 ctI3 ctZ3 dfX3 (fun f => rfl) wfX3 (fun F3 => ⟨okC_X3 F3 (by decide), (hf_X3 F3).1, (hf_X3 F3).2.1, get_X3 F3 (by decide)⟩) (Or.inl ctL3) nX3_init aX3_init ⟨(Nat.le_of_ble_eq_true rfl), (Nat.le_of_ble_eq_true rfl)⟩ (Nat.le_of_ble_eq_true rfl) (Nat.le_of_ble_eq_true rfl) dX5_init_16 dX5_init_19 dX5_init_20 dX5_init_23 1 (by decide) lfX5_16 rfl rfl (Cn := "MateKeys$Position") (by decide +kernel) (Nat.le_of_ble_eq_true rfl) (fun X1 C G F => ?_)
  refine x_aload_n C dX5_init_26 rfl ?_
  refine x_fO C G I0 AO F (by decide) qk3 clX5_9 ctI3 ctZ3 dfX3 (fun f => rfl) wfX3 (fun F3 => ⟨okC_X3 F3 (by decide), (hf_X3 F3).1, (hf_X3 F3).2.1, get_X3 F3 (by decide)⟩) (Or.inl ctL3) nX3_init aX3_init ⟨(Nat.le_of_ble_eq_true rfl), (Nat.le_of_ble_eq_true rfl)⟩ (Nat.le_of_ble_eq_true rfl) (Nat.le_of_ble_eq_true rfl) dX5_init_27 dX5_init_30 dX5_init_31 dX5_init_34 2 (by decide) lfX5_19 rfl rfl (Cn := "MateKeys$Position") (by decide +kernel) (Nat.le_of_ble_eq_true rfl) (fun X1 C G F => ?_)
  refine x_aload_n C dX5_init_37 rfl ?_
  refine x_fO C G I0 AO F (by decide) qk3 clX5_9 ctI3 ctZ3 dfX3 (fun f => rfl) wfX3 (fun F3 => ⟨okC_X3 F3 (by decide), (hf_X3 F3).1, (hf_X3 F3).2.1, get_X3 F3 (by decide)⟩) (Or.inl ctL3) nX3_init aX3_init ⟨(Nat.le_of_ble_eq_true rfl), (Nat.le_of_ble_eq_true rfl)⟩ (Nat.le_of_ble_eq_true rfl) (Nat.le_of_ble_eq_true rfl) dX5_init_38 dX5_init_41 dX5_init_42 dX5_init_45 3 (by decide) lfX5_22 rfl rfl (Cn := "MateKeys$Position") (by decide +kernel) (Nat.le_of_ble_eq_true rfl) (fun X1 C G F => ?_)
  refine x_aload_n C dX5_init_48 rfl ?_
  refine x_fO C G I0 AO F (by decide) qk0 clX5_25 ctI0 ctZ0 dfX0 (fun f => rfl) wfX0 (fun F3 => ⟨okC_X0 F3, (hi_X0 F3).1.1, (hi_X0 F3).1.2.1, get_X0 F3 (by decide)⟩) (Or.inr ctL0) nX0_init aX0_init ⟨(Nat.le_of_ble_eq_true rfl), (Nat.le_of_ble_eq_true rfl)⟩ (Nat.le_of_ble_eq_true rfl) (Nat.le_of_ble_eq_true rfl) dX5_init_49 dX5_init_52 dX5_init_53 dX5_init_56 5 (by decide) lfX5_28 rfl rfl (Cn := "MateKeys$History") (by decide +kernel) (Nat.le_of_ble_eq_true rfl) (fun X1 C G F => ?_)
  refine x_aload_n C dX5_init_59 rfl ?_
  refine x_fO C G I0 AO F (by decide) qk2 clX5_32 ctI2 ctZ2 dfX2 (fun f => rfl) wfX2 (fun F3 => ⟨okC_X2 F3 (by decide), (hf_X2 F3).1, (hf_X2 F3).2.1, get_X2 F3 (by decide)⟩) (Or.inl ctL2) nX2_init aX2_init ⟨(Nat.le_of_ble_eq_true rfl), (Nat.le_of_ble_eq_true rfl)⟩ (Nat.le_of_ble_eq_true rfl) (Nat.le_of_ble_eq_true rfl) dX5_init_60 dX5_init_63 dX5_init_64 dX5_init_67 6 (by decide) lfX5_35 rfl rfl (Cn := "MateKeys$MoveTable") (by decide +kernel) (Nat.le_of_ble_eq_true rfl) (fun X1 C G F => ?_)
  refine x_aload_n C dX5_init_70 rfl ?_
  refine x_fO C G I0 AO F (by decide) qk2 clX5_32 ctI2 ctZ2 dfX2 (fun f => rfl) wfX2 (fun F3 => ⟨okC_X2 F3 (by decide), (hf_X2 F3).1, (hf_X2 F3).2.1, get_X2 F3 (by decide)⟩) (Or.inl ctL2) nX2_init aX2_init ⟨(Nat.le_of_ble_eq_true rfl), (Nat.le_of_ble_eq_true rfl)⟩ (Nat.le_of_ble_eq_true rfl) (Nat.le_of_ble_eq_true rfl) dX5_init_71 dX5_init_74 dX5_init_75 dX5_init_78 7 (by decide) lfX5_39 rfl rfl (Cn := "MateKeys$MoveTable") (by decide +kernel) (Nat.le_of_ble_eq_true rfl) (fun X1 C G F => ?_)
  refine x_aload_n C dX5_init_81 rfl ?_
  refine x_iconst C (v := nI 4) dX5_init_82 (by decide +kernel) ?_
  refine x_fI C G I0 (n := 4) F (by decide) qk5 8 (by decide) (Nat.le_of_ble_eq_true rfl) (Nat.le_of_ble_eq_true rfl) dX5_init_83 dX5_init_85 (by decide) lfX5_42 rfl rfl (by decide +kernel) (Nat.le_of_ble_eq_true rfl) (fun X1 C G => ?_)
  replace F := F.ga (c := (qB0 4 (fun _ => 0))) trivial 8
  refine x_aload_n C dX5_init_88 rfl ?_
  refine x_bipush C (v := nI 25) dX5_init_89 (by decide +kernel) ?_
  refine x_fI C G I0 (n := 25) F (by decide) qk5 9 (by decide) (Nat.le_of_ble_eq_true rfl) (Nat.le_of_ble_eq_true rfl) dX5_init_91 dX5_init_93 (by decide) lfX5_46 rfl rfl (by decide +kernel) (Nat.le_of_ble_eq_true rfl) (fun X1 C G => ?_)
  replace F := F.ga (c := (qB0 25 (fun _ => 0))) trivial 9
  refine x_aload_n C dX5_init_96 rfl ?_
  refine x_fO C G I0 AO F (by decide) qk1 clX5_49 ctI1 ctZ1 dfX1 (fun f => rfl) wfX1 (fun F3 => ⟨okC_X1 F3 (by decide), (hf_X1 F3).1, (hf_X1 F3).2.1, get_X1 F3 (by decide)⟩) (Or.inl ctL1) nX1_init aX1_init ⟨(Nat.le_of_ble_eq_true rfl), (Nat.le_of_ble_eq_true rfl)⟩ (Nat.le_of_ble_eq_true rfl) (Nat.le_of_ble_eq_true rfl) dX5_init_97 dX5_init_100 dX5_init_101 dX5_init_104 10 (by decide) lfX5_52 rfl rfl (Cn := "MateKeys$Line") (by decide +kernel) (Nat.le_of_ble_eq_true rfl) (fun X1 C G F => ?_)
  refine x_aload_n C dX5_init_107 rfl ?_
  refine x_fO C G I0 AO F (by decide) qk4 clX5_56 ctI4 ctZ4 dfX4 (fun f => rfl) wfX4 (fun F3 => ⟨okC_X4 F3 (by decide), (hf_X4 F3).1, (hf_X4 F3).2.1, get_X4 F3 (by decide)⟩) (Or.inl ctL4) nX4_init aX4_init ⟨(Nat.le_of_ble_eq_true rfl), (Nat.le_of_ble_eq_true rfl)⟩ (Nat.le_of_ble_eq_true rfl) (Nat.le_of_ble_eq_true rfl) dX5_init_108 dX5_init_111 dX5_init_112 dX5_init_115 11 (by decide) lfX5_59 rfl rfl (Cn := "MateKeys$Script") (by decide +kernel) (Nat.le_of_ble_eq_true rfl) (fun X1 C G F => ?_)
  refine x_aload_n C dX5_init_118 rfl ?_
  refine x_bipush C (v := (-4)) dX5_init_119 (by decide +kernel) ?_
  refine x_putfield C qk5 12 (by decide) lfX5_63 rfl (ty0 := .int) (by decide +kernel) rfl rfl dX5_init_121 F.2.2.2 (Nat.le_of_ble_eq_true rfl) ?_
  replace F := F.si 12 (-4)
  exact E X1 G 124 _ dX5_init_124
set_option maxHeartbeats 4000000 in
set_option maxRecDepth 100000 in
theorem hf_X5 {h : qH} (F : HF h 1 0 5 fX5) : Wf (rX5 h) ∧ (rX5 h).length = 40 := by
  have F3 := HF.nw F.1 F.2.1 (wfX3 _) (ci := 3)
  replace F := hf_O (mc := 1) F 0 (⟨(hf_X3 F3).1, (hf_X3 F3).2.1, get_X3 F3 (by decide)⟩)
  clear F3
  have F3 := HF.nw F.1 F.2.1 (wfX3 _) (ci := 3)
  replace F := hf_O (mc := 1) F 1 (⟨(hf_X3 F3).1, (hf_X3 F3).2.1, get_X3 F3 (by decide)⟩)
  clear F3
  have F3 := HF.nw F.1 F.2.1 (wfX3 _) (ci := 3)
  replace F := hf_O (mc := 1) F 2 (⟨(hf_X3 F3).1, (hf_X3 F3).2.1, get_X3 F3 (by decide)⟩)
  clear F3
  have F3 := HF.nw F.1 F.2.1 (wfX3 _) (ci := 3)
  replace F := hf_O (mc := 1) F 3 (⟨(hf_X3 F3).1, (hf_X3 F3).2.1, get_X3 F3 (by decide)⟩)
  clear F3
  have F3 := HF.nw F.1 F.2.1 (wfX0 _) (ci := 0)
  replace F := hf_O (mc := 17) F 5 (⟨(hi_X0 F3).1.1, (hi_X0 F3).1.2.1, get_X0 F3 (by decide)⟩)
  clear F3
  have F3 := HF.nw F.1 F.2.1 (wfX2 _) (ci := 2)
  replace F := hf_O (mc := 1) F 6 (⟨(hf_X2 F3).1, (hf_X2 F3).2.1, get_X2 F3 (by decide)⟩)
  clear F3
  have F3 := HF.nw F.1 F.2.1 (wfX2 _) (ci := 2)
  replace F := hf_O (mc := 1) F 7 (⟨(hf_X2 F3).1, (hf_X2 F3).2.1, get_X2 F3 (by decide)⟩)
  clear F3
  replace F := F.ga (c := (qB0 4 (fun _ => 0))) trivial 8
  replace F := F.ga (c := (qB0 25 (fun _ => 0))) trivial 9
  have F3 := HF.nw F.1 F.2.1 (wfX1 _) (ci := 1)
  replace F := hf_O (mc := 1) F 10 (⟨(hf_X1 F3).1, (hf_X1 F3).2.1, get_X1 F3 (by decide)⟩)
  clear F3
  have F3 := HF.nw F.1 F.2.1 (wfX4 _) (ci := 4)
  replace F := hf_O (mc := 4) F 11 (⟨(hf_X4 F3).1, (hf_X4 F3).2.1, get_X4 F3 (by decide)⟩)
  clear F3
  replace F := F.si 12 (-4)
  exact ⟨F.1, F.2.1⟩
