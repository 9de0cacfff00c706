/-! what the Statement gives of the start -/
abbrev q_FL : List Jvm.Cond := flatC (Jvm.Cond.and given_1 narrow_1)
theorem fl_C : ∀ j, j < 16 → Cond.eq (.elem (.static "MateKeys" "STEP_COLUMNS" "[I") (.int (Int32.ofNat j))) (.int (q_sc j)) ∈ q_FL := by decide +kernel
theorem fl_R : ∀ j, j < 16 → Cond.eq (.elem (.static "MateKeys" "STEP_ROWS" "[I") (.int (Int32.ofNat j))) (.int (q_sr j)) ∈ q_FL := by decide +kernel
def q_tm (i : Nat) : Term := if i = 0 then .string "MateKeys$Line" 19 else .string "MateKeys$Line" 34
theorem fl_ex : ∀ i, i < 2 → Cond.exactly (q_tm i) "java/lang/String" ∈ q_FL := by decide +kernel
theorem fl_co : ∀ i, i < 2 → Cond.eq (.field (q_tm i) "java/lang/String" "coder" "B") (.int 0) ∈ q_FL := by decide +kernel
theorem fl_ar : ∀ i, i < 2 → Cond.arrayOf (.field (q_tm i) "java/lang/String" "value" "[B") .byte ∈ q_FL := by decide +kernel
theorem fl_le : ∀ i, i < 2 → Cond.eq (.length (.field (q_tm i) "java/lang/String" "value" "[B")) (.int (Int32.ofNat (q_sl.getD i 0))) ∈ q_FL := by decide +kernel
theorem fl_el : ∀ i, i < 2 → ∀ j, j < q_sl.getD i 0 → Cond.eq (.elem (.field (q_tm i) "java/lang/String" "value" "[B") (.int (Int32.ofNat j))) (.int ((q_sb.getD i []).getD j 0)) ∈ q_FL := by decide +kernel
def q_ad (tC tR fm b : Nat) (kK kV : Nat → Nat) : Nat → Nat := fun k => if k = 1000 then tC else if k = 1001 then tR else if k = 2020 then fm else if k = 3000 then b else if k < 2010 then kK (k - 2000) else kV (k - 2010)
theorem q_adK {tC tR fm b : Nat} {kK kV : Nat → Nat} {i : Nat} (hi : i < 2) : q_ad tC tR fm b kK kV (2000 + i) = kK i := by
  unfold q_ad
  rw [if_neg (by omega), if_neg (by omega), if_neg (by omega), if_neg (by omega), if_pos (by omega), show 2000 + i - 2000 = i by omega]
theorem q_adV {tC tR fm b : Nat} {kK kV : Nat → Nat} {i : Nat} (hi : i < 2) : q_ad tC tR fm b kK kV (2010 + i) = kV i := by
  unfold q_ad
  rw [if_neg (by omega), if_neg (by omega), if_neg (by omega), if_neg (by omega), if_neg (by omega), show 2010 + i - 2010 = i by omega]
set_option maxHeartbeats 4000000 in
set_option maxRecDepth 100000 in
theorem y_start {s : State} {b : Nat} (hts : ∀ w ∈ lw_tbl, w.before #[Value.ref b] s = true) (hgv : (Jvm.Cond.and given_1 narrow_1).before #[Value.ref b] s = true) : ∃ tC tR fm kK kV, q_Y (q_ad tC tR fm b kK kV) (fun q : Nat => s.heap.size ≤ q) s s.heap := by
  have hs := flat_of_before _ hgv
  have hA : ∀ a : Nat, a < s.heap.size → ¬ (fun q : Nat => s.heap.size ≤ q) a := fun a h => Nat.not_le.mpr h
  obtain ⟨tC, eC, hTC⟩ := va_Tof (tm := .static "MateKeys" "STEP_COLUMNS" "[I") (ty := .int) (N := 16) (f := fun j => .int (q_sc j)) (A := fun q : Nat => s.heap.size ≤ q) (by decide) (hs _ (by decide +kernel)) (va_eqt (hs _ (by decide +kernel))) (fun j hj => va_eqt (hs _ (fl_C j hj))) hA
  obtain ⟨tR, eR, hTR⟩ := va_Tof (tm := .static "MateKeys" "STEP_ROWS" "[I") (ty := .int) (N := 16) (f := fun j => .int (q_sr j)) (A := fun q : Nat => s.heap.size ≤ q) (by decide) (hs _ (by decide +kernel)) (va_eqt (hs _ (by decide +kernel))) (fun j hj => va_eqt (hs _ (fl_R j hj))) hA
  obtain ⟨kK, kV, hS, hev⟩ := vk_Sof (N := 2) (tm := q_tm) (len := q_sl) (byt := q_sb) (A := fun q : Nat => s.heap.size ≤ q) (by decide) (fun i hi => hs _ (fl_ex i hi)) (fun i hi => hs _ (fl_co i hi)) (fun i hi => hs _ (fl_ar i hi)) (fun i hi => hs _ (fl_le i hi)) (fun i hi j hj => hs _ (fl_el i hi j hj))
    (fun i j hi hj hij => by
      rcases (show i = 0 ∧ j = 1 ∨ i = 1 ∧ j = 0 by omega) with ⟨rfl, rfl⟩ | ⟨rfl, rfl⟩
      · exact Or.inl (hs _ (by decide +kernel))
      · exact Or.inr (hs _ (by decide +kernel))) hA
  have e0 : (Term.string "MateKeys$Line" 19).eval #[Value.ref b] s none [] s = some (.ref (kK 0)) := hev 0 (by decide)
  have e1 : (Term.string "MateKeys$Line" 34).eval #[Value.ref b] s none [] s = some (.ref (kK 1)) := hev 1 (by decide)
  have e2 := va_eqR (hs (.eq (.string "MateKeys$Line" 19) (.string "MateKeys$Script" 61)) (by decide +kernel)) e0
  have e3 := va_eqR (hs (.eq (.string "MateKeys$Line" 19) (.string "MateKeysModel" 175)) (by decide +kernel)) e0
  have hF : ∃ fm : Nat, va_Z "jdk/internal/util/Preconditions" "SIOOBE_FORMATTER" "Ljava/util/function/BiFunction;" .null (fun q : Nat => s.heap.size ≤ q) s s.heap ∨ va_Z "jdk/internal/util/Preconditions" "SIOOBE_FORMATTER" "Ljava/util/function/BiFunction;" (.ref fm) (fun q : Nat => s.heap.size ≤ q) s s.heap := by
    obtain ⟨v, hv, hr⟩ := Cond.isRef_spec (hs (.isRef (.static "jdk/internal/util/Preconditions" "SIOOBE_FORMATTER" "Ljava/util/function/BiFunction;")) (by decide +kernel))
    have hz := va_Zof (A := fun q : Nat => s.heap.size ≤ q) (hts (.laysStatic "jdk/internal/util/Preconditions" "SIOOBE_FORMATTER" "Ljava/util/function/BiFunction;") (by decide +kernel)) (hts (.initialized "jdk/internal/util/Preconditions") (by decide +kernel)) hv hA
    cases v with
    | null => exact ⟨0, Or.inl hz⟩
    | ref r => exact ⟨r, Or.inr hz⟩
    | _ => cases hr
  obtain ⟨fm, hF⟩ := hF
  refine ⟨tC, tR, fm, kK, kV, ?_, hTC, ?_, hTR, ⟨?_, ?_, ?_, ?_⟩, ⟨fun i hi => ?_, fun i j hi hj e => ?_⟩, ?_, hF⟩
  · exact va_Zref (hts (.laysStatic "MateKeys" "STEP_COLUMNS" "[I") (by decide +kernel)) (hts (.initialized "MateKeys") (by decide +kernel)) eC hA
  · exact va_Zref (hts (.laysStatic "MateKeys" "STEP_ROWS" "[I") (by decide +kernel)) (hts (.initialized "MateKeys") (by decide +kernel)) eR hA
  · exact vk_R.of (hts (.stringRef "MateKeys$Line" 19 ".KQRBN#k") (by decide +kernel)) e0
  · exact vk_R.of (hts (.stringRef "MateKeys$Line" 34 " =+#") (by decide +kernel)) e1
  · exact vk_R.of (hts (.stringRef "MateKeys$Script" 61 ".KQRBN#k") (by decide +kernel)) e2
  · exact vk_R.of (hts (.stringRef "MateKeysModel" 175 ".KQRBN#k") (by decide +kernel)) e3
  · have a1 := q_adK (tC := tC) (tR := tR) (fm := fm) (b := b) (kK := kK) (kV := kV) hi
    have a2 := q_adV (tC := tC) (tR := tR) (fm := fm) (b := b) (kK := kK) (kV := kV) hi
    simp only [a1, a2]
    exact hS.1 i hi
  · have a1 := q_adK (tC := tC) (tR := tR) (fm := fm) (b := b) (kK := kK) (kV := kV) hi
    have a2 := q_adK (tC := tC) (tR := tR) (fm := fm) (b := b) (kK := kK) (kV := kV) hj
    exact hS.2 i j hi hj (a1.symm.trans (e.trans a2))
  · exact va_Zof (hts (.laysStatic "java/lang/String" "COMPACT_STRINGS" "Z") (by decide +kernel)) (hts (.initialized "java/lang/String") (by decide +kernel)) (va_eqt (hs _ (by decide +kernel))) hA
