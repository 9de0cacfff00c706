/-! String constants (place 2000 + q, their bytes at 2010 + q) and the JDK's methods -/
theorem x_ldcS {X : qX} {M : qM} (C : qC X M) {pc : Nat} {loc : List (Nat × Value)} {st : List Value} {h : qH} {q idx : Nat} {tx : String} (hc : ∀ (ad : Nat → Nat) (A : Nat → Prop) (U : State) (H : Heap), q_Y ad A U H → vk_R M.1.cls idx tx (ad (2000 + q)) U) (hd : decode M.2.1 pc = .ok (.ldc idx, 2)) (kk : Ex X M (pc + 2) loc (.ref (2000 + q) :: st) h) : Ex X M pc loc st h := by
  obtain ⟨p, l, e, s, m, args, below, meth, c, ad, cy, D, A, cells, slots, len, Q⟩ := X
  obtain ⟨hx, hb, hml, hown, hts, hA, hG, hce, hso⟩ := C
  intro H locs ls hlen hP hD hS hl
  exact va_ldcS hx hb hown (hc _ _ _ _ hG.2.2) hd (kk H locs ls hlen hP hD hS hl)
theorem x_strvalue {X : qX} {M : qM} (C : qC X M) {pc : Nat} {loc : List (Nat × Value)} {st : List Value} {h : qH} {q idx : Nat} (hq : q < 2) (hlk : Cond.fieldLink M.1.cls idx "java/lang/String" "value" "[B" ∈ qT) (hd : decode M.2.1 pc = .ok (.getfield idx, 3)) (kk : Ex X M (pc + 3) loc (.ref (2010 + q) :: st) h) : Ex X M pc loc (.ref (2000 + q) :: st) h := by
  obtain ⟨p, l, e, s, m, args, below, meth, c, ad, cy, D, A, cells, slots, len, Q⟩ := X
  obtain ⟨hx, hb, hml, hown, hts, hA, hG, hce, hso⟩ := C
  intro H locs ls hlen hP hD hS hl
  exact vk_getf hx hb (hG.2.2.2.2.2.2.2.1.1 q hq).2.2.1 hS hown (hts _ hlk) (fun _ h9 => h9) hd (kk H locs ls hlen hP hD hS hl)
theorem x_strcoder {X : qX} {M : qM} (C : qC X M) {pc : Nat} {loc : List (Nat × Value)} {st : List Value} {h : qH} {q idx : Nat} (hq : q < 2) (hlk : Cond.fieldLink M.1.cls idx "java/lang/String" "coder" "B" ∈ qT) (hd : decode M.2.1 pc = .ok (.getfield idx, 3)) (kk : Ex X M (pc + 3) loc (.int (nI 0) :: st) h) : Ex X M pc loc (.ref (2000 + q) :: st) h := by
  obtain ⟨p, l, e, s, m, args, below, meth, c, ad, cy, D, A, cells, slots, len, Q⟩ := X
  obtain ⟨hx, hb, hml, hown, hts, hA, hG, hce, hso⟩ := C
  intro H locs ls hlen hP hD hS hl
  exact vk_getf hx hb (hG.2.2.2.2.2.2.2.1.1 q hq).2.1 hS hown (hts _ hlk) (fun _ h9 => h9) hd (kk H locs ls hlen hP hD hS hl)
theorem x_balen {X : qX} {M : qM} (C : qC X M) {pc : Nat} {loc : List (Nat × Value)} {st : List Value} {h : qH} {q : Nat} (hq : q < 2) (hd : decode M.2.1 pc = .ok (.arraylength, 1)) (kk : Ex X M (pc + 1) loc (.int (nI (q_sl.getD q 0)) :: st) h) : Ex X M pc loc (.ref (2010 + q) :: st) h := by
  obtain ⟨p, l, e, s, m, args, below, meth, c, ad, cy, D, A, cells, slots, len, Q⟩ := X
  obtain ⟨hx, hb, hml, hown, hts, hA, hG, hce, hso⟩ := C
  intro H locs ls hlen hP hD hS hl
  exact va_tlen hx hb (hG.2.2.2.2.2.2.2.1.1 q hq).2.2.2 hS rfl hd (kk H locs ls hlen hP hD hS hl)
theorem x_bald {X : qX} {M : qM} (C : qC X M) {pc : Nat} {loc : List (Nat × Value)} {st : List Value} {h : qH} {q i : Nat} (hq : q < 2) (hd : decode M.2.1 pc = .ok (.baload, 1)) (hi : i < q_sl.getD q 0) (kk : Ex X M (pc + 1) loc (.int ((q_sb.getD q []).getD i 0) :: st) h) : Ex X M pc loc (.int (nI i) :: .ref (2010 + q) :: st) h := by
  obtain ⟨p, l, e, s, m, args, below, meth, c, ad, cy, D, A, cells, slots, len, Q⟩ := X
  obtain ⟨hx, hb, hml, hown, hts, hA, hG, hce, hso⟩ := C
  intro H locs ls hlen hP hD hS hl
  have hn : q_sl.getD q 0 < 2147483648 := by
    have : ∀ q : Fin 2, q_sl.getD q 0 < 2147483648 := by decide +kernel
    exact this ⟨q, hq⟩
  refine va_tb hx hb (hG.2.2.2.2.2.2.2.1.1 q hq).2.2.2 hS (vp_in_nI hi hn) rfl hd ?_
  rw [nI_clamp (by omega)]
  exact kk H locs ls hlen hP hD hS hl
theorem x_compact {X : qX} {M : qM} (C : qC X M) {pc : Nat} {loc : List (Nat × Value)} {st : List Value} {h : qH} {idx : Nat} (hlk : Cond.fieldLink M.1.cls idx "java/lang/String" "COMPACT_STRINGS" "Z" ∈ qT) (hd : decode M.2.1 pc = .ok (.getstatic idx, 3)) (kk : Ex X M (pc + 3) loc (.int (nI 1) :: st) h) : Ex X M pc loc st h := by
  obtain ⟨p, l, e, s, m, args, below, meth, c, ad, cy, D, A, cells, slots, len, Q⟩ := X
  obtain ⟨hx, hb, hml, hown, hts, hA, hG, hce, hso⟩ := C
  intro H locs ls hlen hP hD hS hl
  exact va_gets hx hb hG.2.2.2.2.2.2.2.2.1 hS hown (hts _ hlk) (fun _ h9 => h9) hd (kk H locs ls hlen hP hD hS hl)
theorem x_sioobe {X : qX} {M : qM} (C : qC X M) {pc : Nat} {loc : List (Nat × Value)} {st : List Value} {h : qH} {idx : Nat} (hlk : Cond.fieldLink M.1.cls idx "jdk/internal/util/Preconditions" "SIOOBE_FORMATTER" "Ljava/util/function/BiFunction;" ∈ qT) (hd : decode M.2.1 pc = .ok (.getstatic idx, 3)) (kk : ∀ v : Value, v = .null ∨ v = .ref 2020 → Ex X M (pc + 3) loc (v :: st) h) : Ex X M pc loc st h := by
  obtain ⟨p, l, e, s, m, args, below, meth, c, ad, cy, D, A, cells, slots, len, Q⟩ := X
  obtain ⟨hx, hb, hml, hown, hts, hA, hG, hce, hso⟩ := C
  intro H locs ls hlen hP hD hS hl
  rcases hG.2.2.2.2.2.2.2.2.2 with hz | hz
  · exact va_gets hx hb hz hS hown (hts _ hlk) (fun _ h9 => h9) hd (kk _ (Or.inl rfl) H locs ls hlen hP hD hS hl)
  · exact va_gets hx hb hz hS hown (hts _ hlk) (fun _ h9 => h9) hd (kk _ (Or.inr rfl) H locs ls hlen hP hD hS hl)
theorem x_i2b {X : qX} {M : qM} (C : qC X M) {pc : Nat} {loc : List (Nat × Value)} {st : List Value} {h : qH} {x : Int32} (hd : decode M.2.1 pc = .ok (.i2b, 1)) (kk : Ex X M (pc + 1) loc (.int x.toInt8.toInt32 :: st) h) : Ex X M pc loc (.int x :: st) h := by
  obtain ⟨p, l, e, s, m, args, below, meth, c, ad, cy, D, A, cells, slots, len, Q⟩ := X
  obtain ⟨hx, hb, hml, hown, hts, hA, hG, hce, hso⟩ := C
  intro H locs ls hlen hP hD hS hl
  exact lv_i2b hx hb hd rfl (kk H locs ls hlen hP hD hS hl)
theorem x_callK {X : qX} {M : qM} (C : qC X M) {pc : Nat} {loc : List (Nat × Value)} {st : List Value} {h : qH} {idx q : Nat} {N : qM} {As : List Value} {r : Option Value} {h' : qH} (hok : Ok N (.ref (2000 + q) :: As) h r h') (hlk : Cond.methodLink M.1.cls idx N.1 ∈ qT) (hI : qIn N) (hs : qIs N) (har : qAr N As.length) (hrm : qRm M N) (hw : (st.map fun v => v.category).sum ≤ 8) (hq : q < 2) (hcl : "java/lang/String" = N.1.cls) (hd : decode M.2.1 pc = .ok (.invokevirtual idx, 3)) (kk : Ex X M (pc + 3) loc (r.toList ++ st) h') : Ex X M pc loc (As.reverse ++ .ref (2000 + q) :: st) h := by
  obtain ⟨p, l, e, s, m, args, below, meth, c, ad, cy, D, A, cells, slots, len, Q⟩ := X
  obtain ⟨hx, hb, hml, hown, hts, hA, hG, hce, hso⟩ := C
  intro H locs ls hlen hP hD hS hl
  obtain ⟨hF, hB⟩ := q_pre hP hD hS hA hG
  have hcw : CallW M.2.2.2.2 s args M.1.cls N.1.cls idx N.1 N.2.1 N.2.2.1 N.2.2.2.1 (qws N) N.2.2.2.2 0 0 As.length := ⟨⟨hI.2.2.2.1, hI.2.2.2.2, hrm.1, hrm.2, q_pay hts hI, List.mem_cons_self, hts _ hI.1, hts _ hI.2.1, hI.2.2.1, q_ar har, hts _ hlk⟩, hts _ hs.1, hts _ hs.2⟩
  have hrv := vk_recv hG.2.2.2.2.2.2.2.1 hq hS
  rw [hcl] at hrv
  rw [q_map_rev]
  refine q_call (va_runV (As := As.map (q_v ad)) (rest := st.map (q_v ad)) ⟨hx, hb, hml, hown, hts⟩ (hok l ad cy D H.size) hcw ⟨fun a U g mk q => ⟨q.1, q.2.calling⟩, hrv, fun U hU hW => ⟨rfl, hB U hU hW⟩⟩ rfl (List.length_map ..) hl.1 rfl (q_room hw) hd ⟨hce, hso⟩) hS hF (fun H1 locs1 hlen1 hP1 hS1 => ?_)
  have k2 := kk H1 locs1 ls (hlen1.trans hlen) hP1 (q_w_D hD hlen1) hS1 hl
  cases r <;> exact k2
theorem x_callK0i {X : qX} {M : qM} (C : qC X M) {pc : Nat} {loc : List (Nat × Value)} {st : List Value} {h : qH} {v : Value} {idx q : Nat} {N : qM} {h' : qH} (hok : Ok N [.ref (2000 + q)] h (some v) h') (hlk : Cond.methodLink M.1.cls idx N.1 ∈ qT) (hI : qIn N) (hs : qIs N) (har : qAr N 0) (hrm : qRm M N) (hw : (st.map fun v => v.category).sum ≤ 8) (hq : q < 2) (hcl : "java/lang/String" = N.1.cls) (hd : decode M.2.1 pc = .ok (.invokevirtual idx, 3)) (kk : Ex X M (pc + 3) loc (v :: st) h') : Ex X M pc loc (.ref (2000 + q) :: st) h := x_callK (As := []) C hok hlk hI hs har hrm hw hq hcl hd kk
theorem x_callK1i {X : qX} {M : qM} (C : qC X M) {pc : Nat} {loc : List (Nat × Value)} {st : List Value} {h : qH} {v : Value} {idx q : Nat} {N : qM} {a1 : Value} {h' : qH} (hok : Ok N [.ref (2000 + q), a1] h (some v) h') (hlk : Cond.methodLink M.1.cls idx N.1 ∈ qT) (hI : qIn N) (hs : qIs N) (har : qAr N 1) (hrm : qRm M N) (hw : (st.map fun v => v.category).sum ≤ 8) (hq : q < 2) (hcl : "java/lang/String" = N.1.cls) (hd : decode M.2.1 pc = .ok (.invokevirtual idx, 3)) (kk : Ex X M (pc + 3) loc (v :: st) h') : Ex X M pc loc (a1 :: .ref (2000 + q) :: st) h := x_callK (As := [a1]) C hok hlk hI hs har hrm hw hq hcl hd kk
theorem x_callK2i {X : qX} {M : qM} (C : qC X M) {pc : Nat} {loc : List (Nat × Value)} {st : List Value} {h : qH} {v : Value} {idx q : Nat} {N : qM} {a1 a2 : Value} {h' : qH} (hok : Ok N [.ref (2000 + q), a1, a2] h (some v) h') (hlk : Cond.methodLink M.1.cls idx N.1 ∈ qT) (hI : qIn N) (hs : qIs N) (har : qAr N 2) (hrm : qRm M N) (hw : (st.map fun v => v.category).sum ≤ 8) (hq : q < 2) (hcl : "java/lang/String" = N.1.cls) (hd : decode M.2.1 pc = .ok (.invokevirtual idx, 3)) (kk : Ex X M (pc + 3) loc (v :: st) h') : Ex X M pc loc (a2 :: a1 :: .ref (2000 + q) :: st) h := x_callK (As := [a1, a2]) C hok hlk hI hs har hrm hw hq hcl hd kk
theorem x_callS4i {X : qX} {M : qM} (C : qC X M) {pc : Nat} {loc : List (Nat × Value)} {st : List Value} {h : qH} {v : Value} {idx : Nat} {N : qM} {a1 a2 a3 a4 : Value} {h' : qH} (hok : Ok N [a1, a2, a3, a4] h (some v) h') (hlk : Cond.methodLink M.1.cls idx N.1 ∈ qT) (hI : qIn N) (hs : Cond.static N.1 ∈ qT) (har : qAr N 4) (hrm : qRm M N) (hw : (st.map fun v => v.category).sum ≤ 8) (hd : decode M.2.1 pc = .ok (.invokestatic idx, 3)) (kk : Ex X M (pc + 3) loc (v :: st) h') : Ex X M pc loc (a4 :: a3 :: a2 :: a1 :: st) h := x_callS (As := [a1, a2, a3, a4]) C hok hlk hI hs har hrm hw hd kk
def strC (q i : Nat) : Int32 := (q_sb.getD q []).getD i 0
def strN (q : Nat) : Nat := q_sl.getD q 0
set_option maxHeartbeats 4000000 in
set_option maxRecDepth 100000 in
theorem okJ0_coder_7d493 {q : Nat} (hq : q < 2) (h : qH) : Ok MJ0_coder_7d493 [.ref (2000 + q)] (h) (some (.int (nI 0))) (h) := by
  refine ok_of (by decide +kernel) (Nat.zero_le _) (Nat.le_of_ble_eq_true rfl) ?_
  intro X C E
  show Ex X MJ0_coder_7d493 0 [(0, .ref (2000 + q))] [] (h)
  refine x_compact C lfJ0_38 dJ0_coder_7d493_0 ?_
  refine x_if_eqN C 13 dJ0_coder_7d493_3 (by decide) (by omega) (fun c3 => ?_) (fun c3 => ?_)
  · exact absurd c3 (by decide)
  · refine x_aload_n C dJ0_coder_7d493_6 rfl ?_
    refine x_strcoder C hq lfJ0_15 dJ0_coder_7d493_7 ?_
    refine x_goto C 14 dJ0_coder_7d493_10 (by decide) ?_
    exact x_iret E .byte dJ0_coder_7d493_14 rfl rfl rfl rfl
set_option maxHeartbeats 4000000 in
set_option maxRecDepth 100000 in
theorem okJ0_isLatin1_aae02 {q : Nat} (hq : q < 2) (h : qH) : Ok MJ0_isLatin1_aae02 [.ref (2000 + q)] (h) (some (.int (qb true))) (h) := by
  refine ok_of (by decide +kernel) (Nat.zero_le _) (Nat.le_of_ble_eq_true rfl) ?_
  intro X C E
  show Ex X MJ0_isLatin1_aae02 0 [(0, .ref (2000 + q))] [] (h)
  refine x_compact C lfJ0_38 dJ0_isLatin1_aae02_0 ?_
  refine x_if_eqN C 17 dJ0_isLatin1_aae02_3 (by decide) (by omega) (fun c3 => ?_) (fun c3 => ?_)
  · exact absurd c3 (by decide)
  · refine x_aload_n C dJ0_isLatin1_aae02_6 rfl ?_
    refine x_strcoder C hq lfJ0_15 dJ0_isLatin1_aae02_7 ?_
    refine x_if_neN C 17 dJ0_isLatin1_aae02_10 (by decide) (by omega) (fun c10 => ?_) (fun c10 => ?_)
    · exact absurd rfl c10
    · refine x_iconst C (v := nI 1) dJ0_isLatin1_aae02_13 (by decide +kernel) ?_
      refine x_goto C 18 dJ0_isLatin1_aae02_14 (by decide) ?_
      exact x_iret E .boolean dJ0_isLatin1_aae02_18 rfl rfl rfl rfl
set_option maxHeartbeats 4000000 in
set_option maxRecDepth 100000 in
theorem okJ0_length_8abf5 {q : Nat} (hq : q < 2) (h : qH) : Ok MJ0_length_8abf5 [.ref (2000 + q)] (h) (some (.int (nI (strN q)))) (h) := by
  refine ok_of (by decide +kernel) (Nat.zero_le _) (Nat.le_of_ble_eq_true rfl) ?_
  intro X C E
  show Ex X MJ0_length_8abf5 0 [(0, .ref (2000 + q))] [] (h)
  refine x_aload_n C dJ0_length_8abf5_0 rfl ?_
  refine x_strvalue C hq lfJ0_9 dJ0_length_8abf5_1 ?_
  refine x_balen C hq dJ0_length_8abf5_4 ?_
  refine x_aload_n C dJ0_length_8abf5_5 rfl ?_
  refine x_callK0i C (okJ0_coder_7d493 hq _) lkJ0_335 miJ0_coder_7d493 msJ0_coder_7d493 maJ0_coder_7d493 ⟨Nat.le_of_ble_eq_true rfl, Nat.le_of_ble_eq_true rfl⟩ (Nat.le_of_ble_eq_true rfl) hq rfl dJ0_length_8abf5_6 ?_
  refine x_ishr C dJ0_length_8abf5_9 ?_
  rw [show nI (q_sl.getD q 0) >>> (nI 0 &&& 31) = nI (strN q) from (by decide +kernel : ∀ q : Fin 2, nI (q_sl.getD q 0) >>> (nI 0 &&& 31) = nI (strN q)) ⟨q, hq⟩]
  exact x_iret E .int dJ0_length_8abf5_10 rfl rfl rfl rfl
set_option maxHeartbeats 4000000 in
set_option maxRecDepth 100000 in
theorem okJ3_checkIndex_8e157 {i n : Nat} (hi : i < n) (hn : n < 2147483648) (v : Value) (hv : v = .null ∨ v = .ref 2020) (h : qH) : Ok MJ3_checkIndex_8e157 [.int (nI i), .int (nI n), v] (h) (some (.int (nI i))) (h) := by
  refine ok_of (by decide +kernel) (Nat.zero_le _) (by rcases hv with rfl | rfl <;> exact Nat.le_of_ble_eq_true rfl) ?_
  intro X C E
  rcases hv with rfl | rfl
  · refine x_iload_n C dJ3_checkIndex_8e157_0 rfl ?_
    refine x_if_ltN C 9 dJ3_checkIndex_8e157_1 (by decide) (by omega) ?_
    refine x_iload_n C dJ3_checkIndex_8e157_4 rfl ?_
    refine x_iload_n C dJ3_checkIndex_8e157_5 rfl ?_
    refine x_icmp_ltN C 16 dJ3_checkIndex_8e157_6 (by decide) (by omega) (by omega) (fun c6 => ?_) (fun c6 => ?_)
    · refine x_iload_n C dJ3_checkIndex_8e157_16 rfl ?_
      exact x_iret E .int dJ3_checkIndex_8e157_17 rfl rfl rfl rfl
    · exact absurd hi c6
  · refine x_iload_n C dJ3_checkIndex_8e157_0 rfl ?_
    refine x_if_ltN C 9 dJ3_checkIndex_8e157_1 (by decide) (by omega) ?_
    refine x_iload_n C dJ3_checkIndex_8e157_4 rfl ?_
    refine x_iload_n C dJ3_checkIndex_8e157_5 rfl ?_
    refine x_icmp_ltN C 16 dJ3_checkIndex_8e157_6 (by decide) (by omega) (by omega) (fun c6 => ?_) (fun c6 => ?_)
    · refine x_iload_n C dJ3_checkIndex_8e157_16 rfl ?_
      exact x_iret E .int dJ3_checkIndex_8e157_17 rfl rfl rfl rfl
    · exact absurd hi c6
set_option maxHeartbeats 4000000 in
set_option maxRecDepth 100000 in
theorem okJ0_checkIndex_df160 {i n : Nat} (hi : i < n) (hn : n < 2147483648) (h : qH) : Ok MJ0_checkIndex_df160 [.int (nI i), .int (nI n)] (h) (none) (h) := by
  refine ok_of (by decide +kernel) (Nat.zero_le _) (Nat.le_of_ble_eq_true rfl) ?_
  intro X C E
  show Ex X MJ0_checkIndex_df160 0 [(0, .int (nI i)), (1, .int (nI n))] [] (h)
  refine x_iload_n C dJ0_checkIndex_df160_0 rfl ?_
  refine x_iload_n C dJ0_checkIndex_df160_1 rfl ?_
  refine x_sioobe C lfJ0_1053 dJ0_checkIndex_df160_2 (fun v hv => ?_)
  have hcat : v.category = 1 := by rcases hv with rfl | rfl <;> rfl
  refine x_callS3i C (okJ3_checkIndex_8e157 hi hn v hv _) lkJ0_1059 miJ3_checkIndex_8e157 mtJ3_checkIndex_8e157 maJ3_checkIndex_8e157 ⟨Nat.le_of_ble_eq_true rfl, Nat.le_of_ble_eq_true rfl⟩ (Nat.le_of_ble_eq_true rfl) dJ0_checkIndex_df160_5 ?_
  refine x_pop C rfl dJ0_checkIndex_df160_8 ?_
  exact x_vret E dJ0_checkIndex_df160_9 rfl rfl rfl
theorem strN_lt {q : Nat} (hq : q < 2) : strN q < 100 := (by decide +kernel : ∀ q : Fin 2, strN q < 100) ⟨q, hq⟩
theorem strC_char {q i : Nat} (hq : q < 2) (hi : i < strN q) : ((strC q i &&& nI 255).toUInt32 % 65536).toInt32 = strC q i ∧ narrow .char (.int (strC q i)) = .int (strC q i) := by
  have h : ∀ (q : Fin 2) (i : Fin 8), ((strC q i &&& nI 255).toUInt32 % 65536).toInt32 = strC q i ∧ strC q i = nI (strC q i).toInt.toNat ∧ (strC q i).toInt.toNat < 65536 := by decide +kernel
  have h8 : strN q ≤ 8 := (by decide +kernel : ∀ q : Fin 2, strN q ≤ 8) ⟨q, hq⟩
  obtain ⟨h1, h2, h3⟩ := h ⟨q, hq⟩ ⟨i, by omega⟩
  refine ⟨h1, ?_⟩
  have h4 := (pk_charN h3).1
  rw [← h2] at h4
  exact h4
set_option maxHeartbeats 4000000 in
set_option maxRecDepth 100000 in
theorem okJ1_charAt_3b067 {q i : Nat} (hq : q < 2) (hi : i < strN q) (h : qH) : Ok MJ1_charAt_3b067 [.ref (2010 + q), .int (nI i)] (h) (some (.int (strC q i))) (h) := by
  refine ok_of (by decide +kernel) (Nat.zero_le _) (Nat.le_of_ble_eq_true rfl) ?_
  intro X C E
  show Ex X MJ1_charAt_3b067 0 [(0, .ref (2010 + q)), (1, .int (nI i))] [] (h)
  have hs := strC_char hq hi
  have hn := strN_lt hq
  refine x_iload_n C dJ1_charAt_3b067_0 rfl ?_
  refine x_aload_n C dJ1_charAt_3b067_1 rfl ?_
  refine x_balen C hq dJ1_charAt_3b067_2 ?_
  refine x_callS2v C (okJ0_checkIndex_df160 (n := strN q) hi (by omega) _) lkJ1_9 miJ0_checkIndex_df160 mtJ0_checkIndex_df160 maJ0_checkIndex_df160 ⟨Nat.le_of_ble_eq_true rfl, Nat.le_of_ble_eq_true rfl⟩ (Nat.le_of_ble_eq_true rfl) dJ1_charAt_3b067_3 ?_
  refine x_aload_n C dJ1_charAt_3b067_6 rfl ?_
  refine x_iload_n C dJ1_charAt_3b067_7 rfl ?_
  refine x_bald C hq dJ1_charAt_3b067_8 hi ?_
  refine x_sipush C (v := nI 255) dJ1_charAt_3b067_9 (by decide +kernel) ?_
  refine x_iand C dJ1_charAt_3b067_12 ?_
  refine x_i2c C dJ1_charAt_3b067_13 ?_
  rw [show (((q_sb.getD q []).getD i 0 &&& nI 255).toUInt32 % 65536).toInt32 = strC q i from hs.1]
  exact x_iret E .char dJ1_charAt_3b067_14 rfl hs.2 rfl rfl
set_option maxHeartbeats 4000000 in
set_option maxRecDepth 100000 in
theorem okJ0_charAt_5068e {q i : Nat} (hq : q < 2) (hi : i < strN q) (h : qH) : Ok MJ0_charAt_5068e [.ref (2000 + q), .int (nI i)] (h) (some (.int (strC q i))) (h) := by
  refine ok_of (by decide +kernel) (Nat.zero_le _) (Nat.le_of_ble_eq_true rfl) ?_
  intro X C E
  show Ex X MJ0_charAt_5068e 0 [(0, .ref (2000 + q)), (1, .int (nI i))] [] (h)
  have hs := strC_char hq hi
  refine x_aload_n C dJ0_charAt_5068e_0 rfl ?_
  refine x_callK0i C (okJ0_isLatin1_aae02 hq _) lkJ0_492 miJ0_isLatin1_aae02 msJ0_isLatin1_aae02 maJ0_isLatin1_aae02 ⟨Nat.le_of_ble_eq_true rfl, Nat.le_of_ble_eq_true rfl⟩ (Nat.le_of_ble_eq_true rfl) hq rfl dJ0_charAt_5068e_1 ?_
  refine x_if_eqB C 16 dJ0_charAt_5068e_4 (by decide) (fun c4 => ?_) (fun c4 => ?_)
  · cases c4
  · refine x_aload_n C dJ0_charAt_5068e_7 rfl ?_
    refine x_strvalue C hq lfJ0_9 dJ0_charAt_5068e_8 ?_
    refine x_iload_n C dJ0_charAt_5068e_11 rfl ?_
    refine x_callS2i C (okJ1_charAt_3b067 hq hi _) lkJ0_495 miJ1_charAt_3b067 mtJ1_charAt_3b067 maJ1_charAt_3b067 ⟨Nat.le_of_ble_eq_true rfl, Nat.le_of_ble_eq_true rfl⟩ (Nat.le_of_ble_eq_true rfl) dJ0_charAt_5068e_12 ?_
    exact x_iret E .char dJ0_charAt_5068e_15 rfl hs.2 rfl rfl
set_option maxHeartbeats 4000000 in
set_option maxRecDepth 100000 in
theorem okJ1_canEncode_9a6ad {c : Nat} (hc : c < 256) (h : qH) : Ok MJ1_canEncode_9a6ad [.int (nI c)] (h) (some (.int (qb true))) (h) := by
  refine ok_of (by decide +kernel) (Nat.zero_le _) (Nat.le_of_ble_eq_true rfl) ?_
  intro X C E
  show Ex X MJ1_canEncode_9a6ad 0 [(0, .int (nI c))] [] (h)
  refine x_iload_n C dJ1_canEncode_9a6ad_0 rfl ?_
  refine x_if_ltN C 15 dJ1_canEncode_9a6ad_1 (by decide) (by omega) ?_
  refine x_iload_n C dJ1_canEncode_9a6ad_4 rfl ?_
  refine x_sipush C (v := nI 255) dJ1_canEncode_9a6ad_5 (by decide +kernel) ?_
  refine x_icmp_gtN C 15 dJ1_canEncode_9a6ad_8 (by decide) (by omega) (by omega) (fun c8 => ?_) (fun c8 => ?_)
  · exact absurd c8 (by omega)
  · refine x_iconst C (v := nI 1) dJ1_canEncode_9a6ad_11 (by decide +kernel) ?_
    refine x_goto C 16 dJ1_canEncode_9a6ad_12 (by decide) ?_
    exact x_iret E .boolean dJ1_canEncode_9a6ad_16 rfl rfl rfl rfl
theorem q_cats {ad : Nat → Nat} {st : List Value} {n R : Nat} (h : (st.map fun v => v.category).sum ≤ 8) (hR : 8 + n ≤ R) : ((st.map (q_v ad)).map fun v => v.category).sum + n ≤ R := by
  have e : (st.map (q_v ad)).map (fun v => v.category) = st.map (fun v => v.category) := by rw [List.map_map]; exact List.map_congr_left (fun v _ => q_v_cat ad v)
  rw [e]
  omega
theorem x_mmax {X : qX} {M : qM} (C : qC X M) {pc : Nat} {loc : List (Nat × Value)} {st : List Value} {h : qH} {idx : Nat} {x y : Int32} (hlk : Cond.methodLink M.1.cls idx yJ9_max_7cf53 ∈ qT) (hR : 1 ≤ M.2.2.2.2.frames ∧ 8 + 13 ≤ M.2.2.2.2.locals) (hw : (st.map fun v => v.category).sum ≤ 8) (hd : decode M.2.1 pc = .ok (.invokestatic idx, 3)) (kk : Ex X M (pc + 3) loc (.int (if x < y then y else x) :: st) h) : Ex X M pc loc (.int y :: .int x :: st) h := by
  obtain ⟨p, l, e, s, m, args, below, meth, c, ad, cy, D, A, cells, slots, len, Q⟩ := X
  obtain ⟨hx, hb, hml, hown, hts, hA, hG, hce, hso⟩ := C
  intro H locs ls hlen hP hD hS hl
  exact va_mmax hx hb (hml.trans hl.1.symm) hown (hts _ hlk) (hts _ mtJ9_max_7cf53) (hts _ miJ9_max_7cf53.2.1) (hts _ miJ9_max_7cf53.1) hR.1 (q_cats hw hR.2) hce hso hd (kk H locs ls hlen hP hD hS hl)
theorem x_mmin {X : qX} {M : qM} (C : qC X M) {pc : Nat} {loc : List (Nat × Value)} {st : List Value} {h : qH} {idx : Nat} {x y : Int32} (hlk : Cond.methodLink M.1.cls idx yJ9_min_7cf53 ∈ qT) (hR : 1 ≤ M.2.2.2.2.frames ∧ 8 + 13 ≤ M.2.2.2.2.locals) (hw : (st.map fun v => v.category).sum ≤ 8) (hd : decode M.2.1 pc = .ok (.invokestatic idx, 3)) (kk : Ex X M (pc + 3) loc (.int (if y < x then y else x) :: st) h) : Ex X M pc loc (.int y :: .int x :: st) h := by
  obtain ⟨p, l, e, s, m, args, below, meth, c, ad, cy, D, A, cells, slots, len, Q⟩ := X
  obtain ⟨hx, hb, hml, hown, hts, hA, hG, hce, hso⟩ := C
  intro H locs ls hlen hP hD hS hl
  exact va_mmin hx hb (hml.trans hl.1.symm) hown (hts _ hlk) (hts _ mtJ9_min_7cf53) (hts _ miJ9_min_7cf53.2.1) (hts _ miJ9_min_7cf53.1) hR.1 (q_cats hw hR.2) hce hso hd (kk H locs ls hlen hP hD hS hl)
theorem x_mabs {X : qX} {M : qM} (C : qC X M) {pc : Nat} {loc : List (Nat × Value)} {st : List Value} {h : qH} {idx : Nat} {x : Int32} (hlk : Cond.methodLink M.1.cls idx yJ9_abs_0f7a4 ∈ qT) (hR : 1 ≤ M.2.2.2.2.frames ∧ 8 + 13 ≤ M.2.2.2.2.locals) (hw : (st.map fun v => v.category).sum ≤ 8) (hd : decode M.2.1 pc = .ok (.invokestatic idx, 3)) (kk : Ex X M (pc + 3) loc (.int (if 0 ≤ x then x else 0 - x) :: st) h) : Ex X M pc loc (.int x :: st) h := by
  obtain ⟨p, l, e, s, m, args, below, meth, c, ad, cy, D, A, cells, slots, len, Q⟩ := X
  obtain ⟨hx, hb, hml, hown, hts, hA, hG, hce, hso⟩ := C
  intro H locs ls hlen hP hD hS hl
  exact va_mabs hx hb (hml.trans hl.1.symm) hown (hts _ hlk) (hts _ mtJ9_abs_0f7a4) (hts _ miJ9_abs_0f7a4.2.1) (hts _ miJ9_abs_0f7a4.1) hR.1 (q_cats hw hR.2) hce hso hd (kk H locs ls hlen hP hD hS hl)
/-- the first place of a code in the first String, from i on -/
def idx (c : Nat) : Nat → Nat → Int32
  | 0, _ => -1
  | n + 1, i => if strC 0 i = nI c then nI i else idx c n (i + 1)
theorem idx_n {c n i : Nat} (h : ¬ strC 0 i = nI c) : idx c (n + 1) i = idx c n (i + 1) := by rw [idx, if_neg h]
set_option maxHeartbeats 4000000 in
set_option maxRecDepth 100000 in
theorem okJ1_indexOfChar_4cfef {c : Nat} (hc : c < 128) (h : qH) : Ok MJ1_indexOfChar_4cfef [.ref (2010 + 0), .int (nI c), .int (nI 0), .int (nI 8)] (h) (some (.int (idx c 8 0))) (h) := by
  refine ok_of (by decide +kernel) (Nat.zero_le _) (Nat.le_of_ble_eq_true rfl) ?_
  intro X C E
  show Ex X MJ1_indexOfChar_4cfef 0 [(0, .ref (2010 + 0)), (1, .int (nI c)), (2, .int (nI 0)), (3, .int (nI 8))] [] (h)
  have hq : 0 < 2 := by decide
  have L : ∀ n i : Nat, i + n = 8 → idx c 8 0 = idx c n i → Ex X MJ1_indexOfChar_4cfef 7 [(0, .ref (2010 + 0)), (1, .int (nI c)), (2, .int (nI 0)), (3, .int (nI 8)), (4, .int (nI c)), (5, .int (nI i))] [] (h) := by
    intro n
    induction n with
    | zero =>
      intro i hin ht
      have e : i = 8 := by omega
      subst e
      refine x_iload C dJ1_indexOfChar_4cfef_7 rfl ?_
      refine x_iload_n C dJ1_indexOfChar_4cfef_9 rfl ?_
      refine x_icmp_geN C 31 dJ1_indexOfChar_4cfef_10 (by decide) (by omega) (by omega) (fun c10 => ?_) (fun c10 => ?_)
      · refine x_iconst C (v := (-1)) dJ1_indexOfChar_4cfef_31 (by decide +kernel) ?_
        exact x_iret E .int dJ1_indexOfChar_4cfef_32 rfl rfl (by rw [ht]; rfl) rfl
      · exact absurd c10 (by omega)
    | succ n ih =>
      intro i hin ht
      have hlt : i < 8 := by omega
      refine x_iload C dJ1_indexOfChar_4cfef_7 rfl ?_
      refine x_iload_n C dJ1_indexOfChar_4cfef_9 rfl ?_
      refine x_icmp_geN C 31 dJ1_indexOfChar_4cfef_10 (by decide) (by omega) (by omega) (fun c10 => ?_) (fun c10 => ?_)
      · exact absurd c10 (by omega)
      · refine x_aload_n C dJ1_indexOfChar_4cfef_13 rfl ?_
        refine x_iload C dJ1_indexOfChar_4cfef_14 rfl ?_
        refine x_bald C hq dJ1_indexOfChar_4cfef_16 hlt ?_
        refine x_iload C dJ1_indexOfChar_4cfef_17 rfl ?_
        refine x_icmp_ne C 25 dJ1_indexOfChar_4cfef_19 (by decide) (fun c19 => ?_) (fun c19 => ?_)
        · rw [idx_n (n := n) (i := i) (show ¬ strC 0 i = nI c from c19)] at ht
          refine x_iinc C _ dJ1_indexOfChar_4cfef_25 rfl (q_inc _) (by decide) [(5, _), (0, _), (1, _), (2, _), (3, _), (4, _)] rfl ?_
          refine x_goto C 7 dJ1_indexOfChar_4cfef_28 (by decide) ?_
          exact x_sub [1, 2, 3, 4, 5, 0] (ih (i + 1) (by omega) ht) rfl
        · refine x_iload C dJ1_indexOfChar_4cfef_22 rfl ?_
          exact x_iret E .int dJ1_indexOfChar_4cfef_24 rfl rfl (by rw [ht, idx, if_pos (show strC 0 i = nI c from c19)]) rfl
  refine x_iload_n C dJ1_indexOfChar_4cfef_0 rfl ?_
  refine x_i2b C dJ1_indexOfChar_4cfef_1 ?_
  rw [show (nI c).toInt8.toInt32 = nI c from (by decide +kernel : ∀ c : Fin 128, (nI c).toInt8.toInt32 = nI c) ⟨c, hc⟩]
  refine x_istore C dJ1_indexOfChar_4cfef_2 (by decide) [(4, _), (0, _), (1, _), (2, _), (3, _)] rfl ?_
  refine x_iload_n C dJ1_indexOfChar_4cfef_4 rfl ?_
  refine x_istore C dJ1_indexOfChar_4cfef_5 (by decide) [(5, _), (4, _), (0, _), (1, _), (2, _), (3, _)] rfl ?_
  exact x_sub [2, 3, 4, 5, 1, 0] (L 8 0 (by omega) rfl) rfl
set_option maxHeartbeats 4000000 in
set_option maxRecDepth 100000 in
theorem okJ1_indexOf_4cfef {c : Nat} (hc : c < 128) (h : qH) : Ok MJ1_indexOf_4cfef [.ref (2010 + 0), .int (nI c), .int (nI 0), .int (nI 8)] (h) (some (.int (idx c 8 0))) (h) := by
  refine ok_of (by decide +kernel) (Nat.zero_le _) (Nat.le_of_ble_eq_true rfl) ?_
  intro X C E
  show Ex X MJ1_indexOf_4cfef 0 [(0, .ref (2010 + 0)), (1, .int (nI c)), (2, .int (nI 0)), (3, .int (nI 8))] [] (h)
  have hq : 0 < 2 := by decide
  refine x_iload_n C dJ1_indexOf_4cfef_0 rfl ?_
  refine x_callS1i C (okJ1_canEncode_9a6ad (by omega) _) lkJ1_88 miJ1_canEncode_9a6ad mtJ1_canEncode_9a6ad maJ1_canEncode_9a6ad ⟨Nat.le_of_ble_eq_true rfl, Nat.le_of_ble_eq_true rfl⟩ (Nat.le_of_ble_eq_true rfl) dJ1_indexOf_4cfef_1 ?_
  refine x_if_neB C 9 dJ1_indexOf_4cfef_4 (by decide) (fun c4 => ?_) (fun c4 => ?_)
  · refine x_iload_n C dJ1_indexOf_4cfef_9 rfl ?_
    refine x_iconst C (v := nI 0) dJ1_indexOf_4cfef_10 (by decide +kernel) ?_
    refine x_mmax C lkJ1_92 ⟨Nat.le_of_ble_eq_true rfl, Nat.le_of_ble_eq_true rfl⟩ (Nat.le_of_ble_eq_true rfl) dJ1_indexOf_4cfef_11 ?_
    rw [show (if nI 0 < nI 0 then nI 0 else nI 0) = nI 0 from rfl]
    refine x_istore_n C dJ1_indexOf_4cfef_14 (by decide) [(2, _), (0, _), (1, _), (3, _)] rfl ?_
    refine x_iload_n C dJ1_indexOf_4cfef_15 rfl ?_
    refine x_aload_n C dJ1_indexOf_4cfef_16 rfl ?_
    refine x_balen C hq dJ1_indexOf_4cfef_17 ?_
    refine x_mmin C lkJ1_38 ⟨Nat.le_of_ble_eq_true rfl, Nat.le_of_ble_eq_true rfl⟩ (Nat.le_of_ble_eq_true rfl) dJ1_indexOf_4cfef_18 ?_
    rw [show (if nI (q_sl.getD 0 0) < nI 8 then nI (q_sl.getD 0 0) else nI 8) = nI 8 from rfl]
    refine x_istore_n C dJ1_indexOf_4cfef_21 (by decide) [(3, _), (2, _), (0, _), (1, _)] rfl ?_
    refine x_iload_n C dJ1_indexOf_4cfef_22 rfl ?_
    refine x_iload_n C dJ1_indexOf_4cfef_23 rfl ?_
    refine x_icmp_ltN C 29 dJ1_indexOf_4cfef_24 (by decide) (by omega) (by omega) (fun c24 => ?_) (fun c24 => ?_)
    · refine x_aload_n C dJ1_indexOf_4cfef_29 rfl ?_
      refine x_iload_n C dJ1_indexOf_4cfef_30 rfl ?_
      refine x_iload_n C dJ1_indexOf_4cfef_31 rfl ?_
      refine x_iload_n C dJ1_indexOf_4cfef_32 rfl ?_
      refine x_callS4i C (okJ1_indexOfChar_4cfef hc _) lkJ1_95 miJ1_indexOfChar_4cfef mtJ1_indexOfChar_4cfef maJ1_indexOfChar_4cfef ⟨Nat.le_of_ble_eq_true rfl, Nat.le_of_ble_eq_true rfl⟩ (Nat.le_of_ble_eq_true rfl) dJ1_indexOf_4cfef_33 ?_
      exact x_iret E .int dJ1_indexOf_4cfef_36 rfl rfl rfl rfl
    · exact absurd (by decide : 0 < 8) c24
  · cases c4
set_option maxHeartbeats 4000000 in
set_option maxRecDepth 100000 in
theorem okJ0_indexOf_7cf53 {c : Nat} (hc : c < 128) (h : qH) : Ok MJ0_indexOf_7cf53 [.ref (2000 + 0), .int (nI c), .int (nI 0)] (h) (some (.int (idx c 8 0))) (h) := by
  refine ok_of (by decide +kernel) (Nat.zero_le _) (Nat.le_of_ble_eq_true rfl) ?_
  intro X C E
  show Ex X MJ0_indexOf_7cf53 0 [(0, .ref (2000 + 0)), (1, .int (nI c)), (2, .int (nI 0))] [] (h)
  have hq : 0 < 2 := by decide
  refine x_aload_n C dJ0_indexOf_7cf53_0 rfl ?_
  refine x_callK0i C (okJ0_isLatin1_aae02 hq _) lkJ0_492 miJ0_isLatin1_aae02 msJ0_isLatin1_aae02 maJ0_isLatin1_aae02 ⟨Nat.le_of_ble_eq_true rfl, Nat.le_of_ble_eq_true rfl⟩ (Nat.le_of_ble_eq_true rfl) hq rfl dJ0_indexOf_7cf53_1 ?_
  refine x_if_eqB C 23 dJ0_indexOf_7cf53_4 (by decide) (fun c4 => ?_) (fun c4 => ?_)
  · cases c4
  · refine x_aload_n C dJ0_indexOf_7cf53_7 rfl ?_
    refine x_strvalue C hq lfJ0_9 dJ0_indexOf_7cf53_8 ?_
    refine x_iload_n C dJ0_indexOf_7cf53_11 rfl ?_
    refine x_iload_n C dJ0_indexOf_7cf53_12 rfl ?_
    refine x_aload_n C dJ0_indexOf_7cf53_13 rfl ?_
    refine x_callK0i C (okJ0_length_8abf5 hq _) lkJ0_505 miJ0_length_8abf5 msJ0_length_8abf5 maJ0_length_8abf5 ⟨Nat.le_of_ble_eq_true rfl, Nat.le_of_ble_eq_true rfl⟩ (Nat.le_of_ble_eq_true rfl) hq rfl dJ0_indexOf_7cf53_14 ?_
    refine x_callS4i C (okJ1_indexOf_4cfef hc _) lkJ0_637 miJ1_indexOf_4cfef mtJ1_indexOf_4cfef maJ1_indexOf_4cfef ⟨Nat.le_of_ble_eq_true rfl, Nat.le_of_ble_eq_true rfl⟩ (Nat.le_of_ble_eq_true rfl) dJ0_indexOf_7cf53_17 ?_
    refine x_goto C 36 dJ0_indexOf_7cf53_20 (by decide) ?_
    exact x_iret E .int dJ0_indexOf_7cf53_36 rfl rfl rfl rfl
set_option maxHeartbeats 4000000 in
set_option maxRecDepth 100000 in
theorem okJ0_indexOf_0f7a4 {c : Nat} (hc : c < 128) (h : qH) : Ok MJ0_indexOf_0f7a4 [.ref (2000 + 0), .int (nI c)] (h) (some (.int (idx c 8 0))) (h) := by
  refine ok_of (by decide +kernel) (Nat.zero_le _) (Nat.le_of_ble_eq_true rfl) ?_
  intro X C E
  show Ex X MJ0_indexOf_0f7a4 0 [(0, .ref (2000 + 0)), (1, .int (nI c))] [] (h)
  have hq : 0 < 2 := by decide
  refine x_aload_n C dJ0_indexOf_0f7a4_0 rfl ?_
  refine x_iload_n C dJ0_indexOf_0f7a4_1 rfl ?_
  refine x_iconst C (v := nI 0) dJ0_indexOf_0f7a4_2 (by decide +kernel) ?_
  refine x_callK2i C (okJ0_indexOf_7cf53 hc _) lkJ0_633 miJ0_indexOf_7cf53 msJ0_indexOf_7cf53 maJ0_indexOf_7cf53 ⟨Nat.le_of_ble_eq_true rfl, Nat.le_of_ble_eq_true rfl⟩ (Nat.le_of_ble_eq_true rfl) hq rfl dJ0_indexOf_0f7a4_3 ?_
  exact x_iret E .int dJ0_indexOf_0f7a4_6 rfl rfl rfl rfl
