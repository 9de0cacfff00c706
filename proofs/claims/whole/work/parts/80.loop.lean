/-! the law's loop -/
abbrev ML_law : qM := (yL_law, cL_law, 4, (some .boolean), room_1)
def qScr (X : qX) (L : Nat) (xs : Nat → Int32) : Prop := match X with
  | (_, _, _, s, _, _, _, _, _, ad, _, _, A, _, _, _, _) => va_X (ad 3000) L xs s s.heap ∧ ad 3000 < s.heap.size ∧ ¬ A (ad 3000)
theorem x_sld {X : qX} {M : qM} (C : qC X M) {L : Nat} {xs : Nat → Int32} (Sc : qScr X L xs) {pc : Nat} {loc : List (Nat × Value)} {st : List Value} {h : qH} {i : Nat} (hd : decode M.2.1 pc = .ok (.iaload, 1)) (hi : i < L) (hL : L ≤ 1536) (kk : Ex X M (pc + 1) loc (.int (xs i) :: st) h) : Ex X M pc loc (.int (nI i) :: .ref 3000 :: st) h := by
  obtain ⟨p, l, e, s, m, args, below, meth, c, ad, cy, D, A, cells, slots, len, Q⟩ := X
  obtain ⟨hx, hb, hml, hown, hts, hA, hG, hce, hso⟩ := C
  obtain ⟨s1, s2, s3⟩ := Sc
  intro H locs ls hlen hP hD hS hl
  refine va_sld hx hb s1 s2 s3 hS (vp_in_nI hi (by omega)) hd ?_
  rw [nI_clamp (by omega)]
  exact kk H locs ls hlen hP hD hS hl
theorem x_slen {X : qX} {M : qM} (C : qC X M) {L : Nat} {xs : Nat → Int32} (Sc : qScr X L xs) {pc : Nat} {loc : List (Nat × Value)} {st : List Value} {h : qH} (hd : decode M.2.1 pc = .ok (.arraylength, 1)) (kk : Ex X M (pc + 1) loc (.int (nI L) :: st) h) : Ex X M pc loc (.ref 3000 :: st) h := by
  obtain ⟨p, l, e, s, m, args, below, meth, c, ad, cy, D, A, cells, slots, len, Q⟩ := X
  obtain ⟨hx, hb, hml, hown, hts, hA, hG, hce, hso⟩ := C
  obtain ⟨s1, s2, s3⟩ := Sc
  intro H locs ls hlen hP hD hS hl
  exact va_slen hx hb s1 s2 s3 hS hd (kk H locs ls hlen hP hD hS hl)
theorem inv_0 {h : qH} (hi : Inv h) : ∃ fs, h[0]? = some (.inr (5, fs)) := by
  obtain ⟨a, b, c, d, R, nx, sz, Tm, Tk, ta, mc, g, n, tx, len, q, r, V, bf, sv, past, isv, pm, mr, mm, ln, lm, a0, wr, od, o, rfl, i1⟩ := hi
  exact ⟨_, rfl⟩
theorem and31 (x : Int32) : ∃ k : Nat, k < 32 ∧ x &&& nI 31 = nI k := by
  refine ⟨x.toBitVec.toNat % 32, Nat.mod_lt _ (by decide), ?_⟩
  apply Int32.toBitVec_inj.mp
  apply BitVec.eq_of_toNat_eq
  have e1 : (nI 31).toBitVec.toNat = 2 ^ 5 - 1 := by decide +kernel
  have e2 : (nI (x.toBitVec.toNat % 32)).toBitVec = BitVec.ofNat 32 (x.toBitVec.toNat % 32) := rfl
  rw [Int32.toBitVec_and, BitVec.toNat_and, e1, Nat.and_two_pow_sub_one_eq_mod, e2, BitVec.toNat_ofNat, Nat.mod_eq_of_lt (a := x.toBitVec.toNat % 32) (by have := Nat.mod_lt x.toBitVec.toNat (show 0 < 32 by decide); omega)]
theorem q_inc3 (i : Nat) : nI i + Int32.ofInt 3 = nI (i + 3) := nI_add i 3
theorem cmp3 {L i : Nat} (hL : L ≤ 1536) (hi : i < 2000) : nI L - nI 3 < nI i ↔ L < i + 3 := by
  rw [Int32.lt_iff_toInt_lt, pk_sub_toInt (by omega) (by omega), nI_toInt (by omega)]
  omega
set_option maxHeartbeats 4000000 in
set_option maxRecDepth 100000 in
theorem law_0 {X : qX} (C : qC X ML_law) {L : Nat} {xs : Nat → Int32} (Sc : qScr X L xs) (hL : L ≤ 1536) {i : Nat} (hi : i + 3 ≤ L) (hx : xs i &&& nI 31 = nI 0) {h : qH} (hI : Inv h) (kk : ∀ h2, Inv h2 → Ex X ML_law 18 [(3, .int (nI (i + 3))), (2, .ref 40), (1, .ref 0), (0, .ref 3000)] [] h2) : Ex X ML_law 26 [(3, .int (nI i)), (2, .ref 40), (1, .ref 0), (0, .ref 3000)] [] h := by
  obtain ⟨fs0, hk0⟩ := inv_0 hI
  obtain ⟨v, h1, h2, o5, o6, hI2, fs40, hk40⟩ := case_put (xs (i + 1)) (xs (i + 2)) h hI
  refine x_aload_n C dL_law_26 rfl ?_
  refine x_iload_n C dL_law_27 rfl ?_
  refine x_sld C Sc dL_law_28 (by omega) hL ?_
  refine x_bipush C (v := nI 31) dL_law_29 (by decide +kernel) ?_
  refine x_iand C dL_law_31 ?_
  rw [hx]
  refine x_tsw C (off := 144) 176 dL_law_32 (by decide +kernel) (by decide +kernel) (by decide +kernel) (by decide) ?_
  refine x_aload_n C dL_law_176 rfl ?_
  refine x_aload_n C dL_law_177 rfl ?_
  refine x_iload_n C dL_law_178 rfl ?_
  refine x_iconst C (v := nI 1) dL_law_179 (by decide +kernel) ?_
  refine x_iaddN C dL_law_180 ?_
  refine x_sld C Sc dL_law_181 (by omega) hL ?_
  refine x_aload_n C dL_law_182 rfl ?_
  refine x_iload_n C dL_law_183 rfl ?_
  refine x_iconst C (v := nI 2) dL_law_184 (by decide +kernel) ?_
  refine x_iaddN C dL_law_185 ?_
  refine x_sld C Sc dL_law_186 (by omega) hL ?_
  refine x_callV2i C o5 lkL_13 miX5_put msX5_put maX5_put ⟨Nat.le_of_ble_eq_true rfl, Nat.le_of_ble_eq_true rfl⟩ (Nat.le_of_ble_eq_true rfl) hk0 rfl dL_law_187 ?_
  refine x_aload_n C dL_law_190 rfl ?_
  refine x_aload_n C dL_law_191 rfl ?_
  refine x_iload_n C dL_law_192 rfl ?_
  refine x_iconst C (v := nI 1) dL_law_193 (by decide +kernel) ?_
  refine x_iaddN C dL_law_194 ?_
  refine x_sld C Sc dL_law_195 (by omega) hL ?_
  refine x_aload_n C dL_law_196 rfl ?_
  refine x_iload_n C dL_law_197 rfl ?_
  refine x_iconst C (v := nI 2) dL_law_198 (by decide +kernel) ?_
  refine x_iaddN C dL_law_199 ?_
  refine x_sld C Sc dL_law_200 (by omega) hL ?_
  refine x_callV2i C o6 lkL_17 miX6_put msX6_put maX6_put ⟨Nat.le_of_ble_eq_true rfl, Nat.le_of_ble_eq_true rfl⟩ (Nat.le_of_ble_eq_true rfl) hk40 rfl dL_law_201 ?_
  refine x_icmp_eq C 852 dL_law_204 (by decide) (fun c204 => ?_) (fun c204 => ?_)
  · refine x_iinc C _ dL_law_852 rfl (q_inc3 i) (by decide) [(3, _), (2, _), (1, _), (0, _)] rfl ?_
    refine x_goto C 18 dL_law_855 (by decide) ?_
    exact kk h2 hI2
  · exact absurd rfl c204
set_option maxHeartbeats 4000000 in
set_option maxRecDepth 100000 in
theorem law_1 {X : qX} (C : qC X ML_law) {L : Nat} {xs : Nat → Int32} (Sc : qScr X L xs) (hL : L ≤ 1536) {i : Nat} (hi : i + 3 ≤ L) (hx : xs i &&& nI 31 = nI 1) {h : qH} (hI : Inv h) (kk : ∀ h2, Inv h2 → Ex X ML_law 18 [(3, .int (nI (i + 3))), (2, .ref 40), (1, .ref 0), (0, .ref 3000)] [] h2) : Ex X ML_law 26 [(3, .int (nI i)), (2, .ref 40), (1, .ref 0), (0, .ref 3000)] [] h := by
  obtain ⟨fs0, hk0⟩ := inv_0 hI
  obtain ⟨v, h1, h2, o5, o6, hI2, fs40, hk40⟩ := case_lift (xs (i + 1)) h hI
  refine x_aload_n C dL_law_26 rfl ?_
  refine x_iload_n C dL_law_27 rfl ?_
  refine x_sld C Sc dL_law_28 (by omega) hL ?_
  refine x_bipush C (v := nI 31) dL_law_29 (by decide +kernel) ?_
  refine x_iand C dL_law_31 ?_
  rw [hx]
  refine x_tsw C (off := 177) 209 dL_law_32 (by decide +kernel) (by decide +kernel) (by decide +kernel) (by decide) ?_
  refine x_aload_n C dL_law_209 rfl ?_
  refine x_aload_n C dL_law_210 rfl ?_
  refine x_iload_n C dL_law_211 rfl ?_
  refine x_iconst C (v := nI 1) dL_law_212 (by decide +kernel) ?_
  refine x_iaddN C dL_law_213 ?_
  refine x_sld C Sc dL_law_214 (by omega) hL ?_
  refine x_callV1i C o5 lkL_18 miX5_lift msX5_lift maX5_lift ⟨Nat.le_of_ble_eq_true rfl, Nat.le_of_ble_eq_true rfl⟩ (Nat.le_of_ble_eq_true rfl) hk0 rfl dL_law_215 ?_
  refine x_aload_n C dL_law_218 rfl ?_
  refine x_aload_n C dL_law_219 rfl ?_
  refine x_iload_n C dL_law_220 rfl ?_
  refine x_iconst C (v := nI 1) dL_law_221 (by decide +kernel) ?_
  refine x_iaddN C dL_law_222 ?_
  refine x_sld C Sc dL_law_223 (by omega) hL ?_
  refine x_callV1i C o6 lkL_22 miX6_lift msX6_lift maX6_lift ⟨Nat.le_of_ble_eq_true rfl, Nat.le_of_ble_eq_true rfl⟩ (Nat.le_of_ble_eq_true rfl) hk40 rfl dL_law_224 ?_
  refine x_icmp_eq C 852 dL_law_227 (by decide) (fun c227 => ?_) (fun c227 => ?_)
  · refine x_iinc C _ dL_law_852 rfl (q_inc3 i) (by decide) [(3, _), (2, _), (1, _), (0, _)] rfl ?_
    refine x_goto C 18 dL_law_855 (by decide) ?_
    exact kk h2 hI2
  · exact absurd rfl c227
set_option maxHeartbeats 4000000 in
set_option maxRecDepth 100000 in
theorem law_2 {X : qX} (C : qC X ML_law) {L : Nat} {xs : Nat → Int32} (Sc : qScr X L xs) (hL : L ≤ 1536) {i : Nat} (hi : i + 3 ≤ L) (hx : xs i &&& nI 31 = nI 2) {h : qH} (hI : Inv h) (kk : ∀ h2, Inv h2 → Ex X ML_law 18 [(3, .int (nI (i + 3))), (2, .ref 40), (1, .ref 0), (0, .ref 3000)] [] h2) : Ex X ML_law 26 [(3, .int (nI i)), (2, .ref 40), (1, .ref 0), (0, .ref 3000)] [] h := by
  obtain ⟨fs0, hk0⟩ := inv_0 hI
  obtain ⟨v, h1, h2, o5, o6, hI2, fs40, hk40⟩ := case_play (xs (i + 1)) (xs (i + 2)) h hI
  refine x_aload_n C dL_law_26 rfl ?_
  refine x_iload_n C dL_law_27 rfl ?_
  refine x_sld C Sc dL_law_28 (by omega) hL ?_
  refine x_bipush C (v := nI 31) dL_law_29 (by decide +kernel) ?_
  refine x_iand C dL_law_31 ?_
  rw [hx]
  refine x_tsw C (off := 200) 232 dL_law_32 (by decide +kernel) (by decide +kernel) (by decide +kernel) (by decide) ?_
  refine x_aload_n C dL_law_232 rfl ?_
  refine x_aload_n C dL_law_233 rfl ?_
  refine x_iload_n C dL_law_234 rfl ?_
  refine x_iconst C (v := nI 1) dL_law_235 (by decide +kernel) ?_
  refine x_iaddN C dL_law_236 ?_
  refine x_sld C Sc dL_law_237 (by omega) hL ?_
  refine x_aload_n C dL_law_238 rfl ?_
  refine x_iload_n C dL_law_239 rfl ?_
  refine x_iconst C (v := nI 2) dL_law_240 (by decide +kernel) ?_
  refine x_iaddN C dL_law_241 ?_
  refine x_sld C Sc dL_law_242 (by omega) hL ?_
  refine x_callV2i C o5 lkL_23 miX5_play msX5_play maX5_play ⟨Nat.le_of_ble_eq_true rfl, Nat.le_of_ble_eq_true rfl⟩ (Nat.le_of_ble_eq_true rfl) hk0 rfl dL_law_243 ?_
  refine x_aload_n C dL_law_246 rfl ?_
  refine x_aload_n C dL_law_247 rfl ?_
  refine x_iload_n C dL_law_248 rfl ?_
  refine x_iconst C (v := nI 1) dL_law_249 (by decide +kernel) ?_
  refine x_iaddN C dL_law_250 ?_
  refine x_sld C Sc dL_law_251 (by omega) hL ?_
  refine x_aload_n C dL_law_252 rfl ?_
  refine x_iload_n C dL_law_253 rfl ?_
  refine x_iconst C (v := nI 2) dL_law_254 (by decide +kernel) ?_
  refine x_iaddN C dL_law_255 ?_
  refine x_sld C Sc dL_law_256 (by omega) hL ?_
  refine x_callV2i C o6 lkL_26 miX6_play msX6_play maX6_play ⟨Nat.le_of_ble_eq_true rfl, Nat.le_of_ble_eq_true rfl⟩ (Nat.le_of_ble_eq_true rfl) hk40 rfl dL_law_257 ?_
  refine x_icmp_eq C 852 dL_law_260 (by decide) (fun c260 => ?_) (fun c260 => ?_)
  · refine x_iinc C _ dL_law_852 rfl (q_inc3 i) (by decide) [(3, _), (2, _), (1, _), (0, _)] rfl ?_
    refine x_goto C 18 dL_law_855 (by decide) ?_
    exact kk h2 hI2
  · exact absurd rfl c260
set_option maxHeartbeats 4000000 in
set_option maxRecDepth 100000 in
theorem law_3 {X : qX} (C : qC X ML_law) {L : Nat} {xs : Nat → Int32} (Sc : qScr X L xs) (hL : L ≤ 1536) {i : Nat} (hi : i + 3 ≤ L) (hx : xs i &&& nI 31 = nI 3) {h : qH} (hI : Inv h) (kk : ∀ h2, Inv h2 → Ex X ML_law 18 [(3, .int (nI (i + 3))), (2, .ref 40), (1, .ref 0), (0, .ref 3000)] [] h2) : Ex X ML_law 26 [(3, .int (nI i)), (2, .ref 40), (1, .ref 0), (0, .ref 3000)] [] h := by
  obtain ⟨fs0, hk0⟩ := inv_0 hI
  obtain ⟨v, h1, h2, o5, o6, hI2, fs40, hk40⟩ := case_turn  h hI
  refine x_aload_n C dL_law_26 rfl ?_
  refine x_iload_n C dL_law_27 rfl ?_
  refine x_sld C Sc dL_law_28 (by omega) hL ?_
  refine x_bipush C (v := nI 31) dL_law_29 (by decide +kernel) ?_
  refine x_iand C dL_law_31 ?_
  rw [hx]
  refine x_tsw C (off := 233) 265 dL_law_32 (by decide +kernel) (by decide +kernel) (by decide +kernel) (by decide) ?_
  refine x_aload_n C dL_law_265 rfl ?_
  refine x_callV0i C o5 lkL_27 miX5_turn msX5_turn maX5_turn ⟨Nat.le_of_ble_eq_true rfl, Nat.le_of_ble_eq_true rfl⟩ (Nat.le_of_ble_eq_true rfl) hk0 rfl dL_law_266 ?_
  refine x_aload_n C dL_law_269 rfl ?_
  refine x_callV0i C o6 lkL_31 miX6_turn msX6_turn maX6_turn ⟨Nat.le_of_ble_eq_true rfl, Nat.le_of_ble_eq_true rfl⟩ (Nat.le_of_ble_eq_true rfl) hk40 rfl dL_law_270 ?_
  refine x_icmp_eq C 852 dL_law_273 (by decide) (fun c273 => ?_) (fun c273 => ?_)
  · refine x_iinc C _ dL_law_852 rfl (q_inc3 i) (by decide) [(3, _), (2, _), (1, _), (0, _)] rfl ?_
    refine x_goto C 18 dL_law_855 (by decide) ?_
    exact kk h2 hI2
  · exact absurd rfl c273
set_option maxHeartbeats 4000000 in
set_option maxRecDepth 100000 in
theorem law_4 {X : qX} (C : qC X ML_law) {L : Nat} {xs : Nat → Int32} (Sc : qScr X L xs) (hL : L ≤ 1536) {i : Nat} (hi : i + 3 ≤ L) (hx : xs i &&& nI 31 = nI 4) {h : qH} (hI : Inv h) (kk : ∀ h2, Inv h2 → Ex X ML_law 18 [(3, .int (nI (i + 3))), (2, .ref 40), (1, .ref 0), (0, .ref 3000)] [] h2) : Ex X ML_law 26 [(3, .int (nI i)), (2, .ref 40), (1, .ref 0), (0, .ref 3000)] [] h := by
  obtain ⟨fs0, hk0⟩ := inv_0 hI
  obtain ⟨v, h1, h2, o5, o6, hI2, fs40, hk40⟩ := case_mirror  h hI
  refine x_aload_n C dL_law_26 rfl ?_
  refine x_iload_n C dL_law_27 rfl ?_
  refine x_sld C Sc dL_law_28 (by omega) hL ?_
  refine x_bipush C (v := nI 31) dL_law_29 (by decide +kernel) ?_
  refine x_iand C dL_law_31 ?_
  rw [hx]
  refine x_tsw C (off := 246) 278 dL_law_32 (by decide +kernel) (by decide +kernel) (by decide +kernel) (by decide) ?_
  refine x_aload_n C dL_law_278 rfl ?_
  refine x_callV0i C o5 lkL_32 miX5_mirror msX5_mirror maX5_mirror ⟨Nat.le_of_ble_eq_true rfl, Nat.le_of_ble_eq_true rfl⟩ (Nat.le_of_ble_eq_true rfl) hk0 rfl dL_law_279 ?_
  refine x_aload_n C dL_law_282 rfl ?_
  refine x_callV0i C o6 lkL_35 miX6_mirror msX6_mirror maX6_mirror ⟨Nat.le_of_ble_eq_true rfl, Nat.le_of_ble_eq_true rfl⟩ (Nat.le_of_ble_eq_true rfl) hk40 rfl dL_law_283 ?_
  refine x_icmp_eq C 852 dL_law_286 (by decide) (fun c286 => ?_) (fun c286 => ?_)
  · refine x_iinc C _ dL_law_852 rfl (q_inc3 i) (by decide) [(3, _), (2, _), (1, _), (0, _)] rfl ?_
    refine x_goto C 18 dL_law_855 (by decide) ?_
    exact kk h2 hI2
  · exact absurd rfl c286
set_option maxHeartbeats 4000000 in
set_option maxRecDepth 100000 in
theorem law_5 {X : qX} (C : qC X ML_law) {L : Nat} {xs : Nat → Int32} (Sc : qScr X L xs) (hL : L ≤ 1536) {i : Nat} (hi : i + 3 ≤ L) (hx : xs i &&& nI 31 = nI 5) {h : qH} (hI : Inv h) (kk : ∀ h2, Inv h2 → Ex X ML_law 18 [(3, .int (nI (i + 3))), (2, .ref 40), (1, .ref 0), (0, .ref 3000)] [] h2) : Ex X ML_law 26 [(3, .int (nI i)), (2, .ref 40), (1, .ref 0), (0, .ref 3000)] [] h := by
  obtain ⟨fs0, hk0⟩ := inv_0 hI
  obtain ⟨v, h1, h2, o5, o6, hI2, fs40, hk40⟩ := case_thrift  h hI
  refine x_aload_n C dL_law_26 rfl ?_
  refine x_iload_n C dL_law_27 rfl ?_
  refine x_sld C Sc dL_law_28 (by omega) hL ?_
  refine x_bipush C (v := nI 31) dL_law_29 (by decide +kernel) ?_
  refine x_iand C dL_law_31 ?_
  rw [hx]
  refine x_tsw C (off := 259) 291 dL_law_32 (by decide +kernel) (by decide +kernel) (by decide +kernel) (by decide) ?_
  refine x_aload_n C dL_law_291 rfl ?_
  refine x_callV0i C o5 lkL_36 miX5_thrift msX5_thrift maX5_thrift ⟨Nat.le_of_ble_eq_true rfl, Nat.le_of_ble_eq_true rfl⟩ (Nat.le_of_ble_eq_true rfl) hk0 rfl dL_law_292 ?_
  refine x_aload_n C dL_law_295 rfl ?_
  refine x_callV0i C o6 lkL_39 miX6_thrift msX6_thrift maX6_thrift ⟨Nat.le_of_ble_eq_true rfl, Nat.le_of_ble_eq_true rfl⟩ (Nat.le_of_ble_eq_true rfl) hk40 rfl dL_law_296 ?_
  refine x_icmp_eq C 852 dL_law_299 (by decide) (fun c299 => ?_) (fun c299 => ?_)
  · refine x_iinc C _ dL_law_852 rfl (q_inc3 i) (by decide) [(3, _), (2, _), (1, _), (0, _)] rfl ?_
    refine x_goto C 18 dL_law_855 (by decide) ?_
    exact kk h2 hI2
  · exact absurd rfl c299
set_option maxHeartbeats 4000000 in
set_option maxRecDepth 100000 in
theorem law_6 {X : qX} (C : qC X ML_law) {L : Nat} {xs : Nat → Int32} (Sc : qScr X L xs) (hL : L ≤ 1536) {i : Nat} (hi : i + 3 ≤ L) (hx : xs i &&& nI 31 = nI 6) {h : qH} (hI : Inv h) (kk : ∀ h2, Inv h2 → Ex X ML_law 18 [(3, .int (nI (i + 3))), (2, .ref 40), (1, .ref 0), (0, .ref 3000)] [] h2) : Ex X ML_law 26 [(3, .int (nI i)), (2, .ref 40), (1, .ref 0), (0, .ref 3000)] [] h := by
  obtain ⟨fs0, hk0⟩ := inv_0 hI
  obtain ⟨v, h1, h2, o5, o6, hI2, fs40, hk40⟩ := case_at (xs (i + 1)) h hI
  refine x_aload_n C dL_law_26 rfl ?_
  refine x_iload_n C dL_law_27 rfl ?_
  refine x_sld C Sc dL_law_28 (by omega) hL ?_
  refine x_bipush C (v := nI 31) dL_law_29 (by decide +kernel) ?_
  refine x_iand C dL_law_31 ?_
  rw [hx]
  refine x_tsw C (off := 272) 304 dL_law_32 (by decide +kernel) (by decide +kernel) (by decide +kernel) (by decide) ?_
  refine x_aload_n C dL_law_304 rfl ?_
  refine x_aload_n C dL_law_305 rfl ?_
  refine x_iload_n C dL_law_306 rfl ?_
  refine x_iconst C (v := nI 1) dL_law_307 (by decide +kernel) ?_
  refine x_iaddN C dL_law_308 ?_
  refine x_sld C Sc dL_law_309 (by omega) hL ?_
  refine x_callV1i C o5 lkL_40 miX5_at msX5_at maX5_at ⟨Nat.le_of_ble_eq_true rfl, Nat.le_of_ble_eq_true rfl⟩ (Nat.le_of_ble_eq_true rfl) hk0 rfl dL_law_310 ?_
  refine x_aload_n C dL_law_313 rfl ?_
  refine x_aload_n C dL_law_314 rfl ?_
  refine x_iload_n C dL_law_315 rfl ?_
  refine x_iconst C (v := nI 1) dL_law_316 (by decide +kernel) ?_
  refine x_iaddN C dL_law_317 ?_
  refine x_sld C Sc dL_law_318 (by omega) hL ?_
  refine x_callV1i C o6 lkL_43 miX6_at msX6_at maX6_at ⟨Nat.le_of_ble_eq_true rfl, Nat.le_of_ble_eq_true rfl⟩ (Nat.le_of_ble_eq_true rfl) hk40 rfl dL_law_319 ?_
  refine x_icmp_eq C 852 dL_law_322 (by decide) (fun c322 => ?_) (fun c322 => ?_)
  · refine x_iinc C _ dL_law_852 rfl (q_inc3 i) (by decide) [(3, _), (2, _), (1, _), (0, _)] rfl ?_
    refine x_goto C 18 dL_law_855 (by decide) ?_
    exact kk h2 hI2
  · exact absurd rfl c322
set_option maxHeartbeats 4000000 in
set_option maxRecDepth 100000 in
theorem law_7 {X : qX} (C : qC X ML_law) {L : Nat} {xs : Nat → Int32} (Sc : qScr X L xs) (hL : L ≤ 1536) {i : Nat} (hi : i + 3 ≤ L) (hx : xs i &&& nI 31 = nI 7) {h : qH} (hI : Inv h) (kk : ∀ h2, Inv h2 → Ex X ML_law 18 [(3, .int (nI (i + 3))), (2, .ref 40), (1, .ref 0), (0, .ref 3000)] [] h2) : Ex X ML_law 26 [(3, .int (nI i)), (2, .ref 40), (1, .ref 0), (0, .ref 3000)] [] h := by
  obtain ⟨fs0, hk0⟩ := inv_0 hI
  obtain ⟨v, h1, h2, o5, o6, hI2, fs40, hk40⟩ := case_attackers (xs (i + 1)) h hI
  refine x_aload_n C dL_law_26 rfl ?_
  refine x_iload_n C dL_law_27 rfl ?_
  refine x_sld C Sc dL_law_28 (by omega) hL ?_
  refine x_bipush C (v := nI 31) dL_law_29 (by decide +kernel) ?_
  refine x_iand C dL_law_31 ?_
  rw [hx]
  refine x_tsw C (off := 295) 327 dL_law_32 (by decide +kernel) (by decide +kernel) (by decide +kernel) (by decide) ?_
  refine x_aload_n C dL_law_327 rfl ?_
  refine x_aload_n C dL_law_328 rfl ?_
  refine x_iload_n C dL_law_329 rfl ?_
  refine x_iconst C (v := nI 1) dL_law_330 (by decide +kernel) ?_
  refine x_iaddN C dL_law_331 ?_
  refine x_sld C Sc dL_law_332 (by omega) hL ?_
  refine x_callV1i C o5 lkL_44 miX5_attackers msX5_attackers maX5_attackers ⟨Nat.le_of_ble_eq_true rfl, Nat.le_of_ble_eq_true rfl⟩ (Nat.le_of_ble_eq_true rfl) hk0 rfl dL_law_333 ?_
  refine x_aload_n C dL_law_336 rfl ?_
  refine x_aload_n C dL_law_337 rfl ?_
  refine x_iload_n C dL_law_338 rfl ?_
  refine x_iconst C (v := nI 1) dL_law_339 (by decide +kernel) ?_
  refine x_iaddN C dL_law_340 ?_
  refine x_sld C Sc dL_law_341 (by omega) hL ?_
  refine x_callV1i C o6 lkL_47 miX6_attackers msX6_attackers maX6_attackers ⟨Nat.le_of_ble_eq_true rfl, Nat.le_of_ble_eq_true rfl⟩ (Nat.le_of_ble_eq_true rfl) hk40 rfl dL_law_342 ?_
  refine x_icmp_eq C 852 dL_law_345 (by decide) (fun c345 => ?_) (fun c345 => ?_)
  · refine x_iinc C _ dL_law_852 rfl (q_inc3 i) (by decide) [(3, _), (2, _), (1, _), (0, _)] rfl ?_
    refine x_goto C 18 dL_law_855 (by decide) ?_
    exact kk h2 hI2
  · exact absurd rfl c345
set_option maxHeartbeats 4000000 in
set_option maxRecDepth 100000 in
theorem law_8 {X : qX} (C : qC X ML_law) {L : Nat} {xs : Nat → Int32} (Sc : qScr X L xs) (hL : L ≤ 1536) {i : Nat} (hi : i + 3 ≤ L) (hx : xs i &&& nI 31 = nI 8) {h : qH} (hI : Inv h) (kk : ∀ h2, Inv h2 → Ex X ML_law 18 [(3, .int (nI (i + 3))), (2, .ref 40), (1, .ref 0), (0, .ref 3000)] [] h2) : Ex X ML_law 26 [(3, .int (nI i)), (2, .ref 40), (1, .ref 0), (0, .ref 3000)] [] h := by
  obtain ⟨fs0, hk0⟩ := inv_0 hI
  obtain ⟨v, h1, h2, o5, o6, hI2, fs40, hk40⟩ := case_attackersAgain (xs (i + 1)) h hI
  refine x_aload_n C dL_law_26 rfl ?_
  refine x_iload_n C dL_law_27 rfl ?_
  refine x_sld C Sc dL_law_28 (by omega) hL ?_
  refine x_bipush C (v := nI 31) dL_law_29 (by decide +kernel) ?_
  refine x_iand C dL_law_31 ?_
  rw [hx]
  refine x_tsw C (off := 318) 350 dL_law_32 (by decide +kernel) (by decide +kernel) (by decide +kernel) (by decide) ?_
  refine x_aload_n C dL_law_350 rfl ?_
  refine x_aload_n C dL_law_351 rfl ?_
  refine x_iload_n C dL_law_352 rfl ?_
  refine x_iconst C (v := nI 1) dL_law_353 (by decide +kernel) ?_
  refine x_iaddN C dL_law_354 ?_
  refine x_sld C Sc dL_law_355 (by omega) hL ?_
  refine x_callV1i C o5 lkL_48 miX5_attackersAgain msX5_attackersAgain maX5_attackersAgain ⟨Nat.le_of_ble_eq_true rfl, Nat.le_of_ble_eq_true rfl⟩ (Nat.le_of_ble_eq_true rfl) hk0 rfl dL_law_356 ?_
  refine x_aload_n C dL_law_359 rfl ?_
  refine x_aload_n C dL_law_360 rfl ?_
  refine x_iload_n C dL_law_361 rfl ?_
  refine x_iconst C (v := nI 1) dL_law_362 (by decide +kernel) ?_
  refine x_iaddN C dL_law_363 ?_
  refine x_sld C Sc dL_law_364 (by omega) hL ?_
  refine x_callV1i C o6 lkL_51 miX6_attackersAgain msX6_attackersAgain maX6_attackersAgain ⟨Nat.le_of_ble_eq_true rfl, Nat.le_of_ble_eq_true rfl⟩ (Nat.le_of_ble_eq_true rfl) hk40 rfl dL_law_365 ?_
  refine x_icmp_eq C 852 dL_law_368 (by decide) (fun c368 => ?_) (fun c368 => ?_)
  · refine x_iinc C _ dL_law_852 rfl (q_inc3 i) (by decide) [(3, _), (2, _), (1, _), (0, _)] rfl ?_
    refine x_goto C 18 dL_law_855 (by decide) ?_
    exact kk h2 hI2
  · exact absurd rfl c368
set_option maxHeartbeats 4000000 in
set_option maxRecDepth 100000 in
theorem law_9 {X : qX} (C : qC X ML_law) {L : Nat} {xs : Nat → Int32} (Sc : qScr X L xs) (hL : L ≤ 1536) {i : Nat} (hi : i + 3 ≤ L) (hx : xs i &&& nI 31 = nI 9) {h : qH} (hI : Inv h) (kk : ∀ h2, Inv h2 → Ex X ML_law 18 [(3, .int (nI (i + 3))), (2, .ref 40), (1, .ref 0), (0, .ref 3000)] [] h2) : Ex X ML_law 26 [(3, .int (nI i)), (2, .ref 40), (1, .ref 0), (0, .ref 3000)] [] h := by
  obtain ⟨fs0, hk0⟩ := inv_0 hI
  obtain ⟨v, h1, h2, o5, o6, hI2, fs40, hk40⟩ := case_manOf (xs (i + 1)) (xs (i + 2)) h hI
  refine x_aload_n C dL_law_26 rfl ?_
  refine x_iload_n C dL_law_27 rfl ?_
  refine x_sld C Sc dL_law_28 (by omega) hL ?_
  refine x_bipush C (v := nI 31) dL_law_29 (by decide +kernel) ?_
  refine x_iand C dL_law_31 ?_
  rw [hx]
  refine x_tsw C (off := 341) 373 dL_law_32 (by decide +kernel) (by decide +kernel) (by decide +kernel) (by decide) ?_
  refine x_aload_n C dL_law_373 rfl ?_
  refine x_aload_n C dL_law_374 rfl ?_
  refine x_iload_n C dL_law_375 rfl ?_
  refine x_iconst C (v := nI 1) dL_law_376 (by decide +kernel) ?_
  refine x_iaddN C dL_law_377 ?_
  refine x_sld C Sc dL_law_378 (by omega) hL ?_
  refine x_aload_n C dL_law_379 rfl ?_
  refine x_iload_n C dL_law_380 rfl ?_
  refine x_iconst C (v := nI 2) dL_law_381 (by decide +kernel) ?_
  refine x_iaddN C dL_law_382 ?_
  refine x_sld C Sc dL_law_383 (by omega) hL ?_
  refine x_callV2i C o5 lkL_52 miX5_manOf msX5_manOf maX5_manOf ⟨Nat.le_of_ble_eq_true rfl, Nat.le_of_ble_eq_true rfl⟩ (Nat.le_of_ble_eq_true rfl) hk0 rfl dL_law_384 ?_
  refine x_aload_n C dL_law_387 rfl ?_
  refine x_aload_n C dL_law_388 rfl ?_
  refine x_iload_n C dL_law_389 rfl ?_
  refine x_iconst C (v := nI 1) dL_law_390 (by decide +kernel) ?_
  refine x_iaddN C dL_law_391 ?_
  refine x_sld C Sc dL_law_392 (by omega) hL ?_
  refine x_aload_n C dL_law_393 rfl ?_
  refine x_iload_n C dL_law_394 rfl ?_
  refine x_iconst C (v := nI 2) dL_law_395 (by decide +kernel) ?_
  refine x_iaddN C dL_law_396 ?_
  refine x_sld C Sc dL_law_397 (by omega) hL ?_
  refine x_callV2i C o6 lkL_55 miX6_manOf msX6_manOf maX6_manOf ⟨Nat.le_of_ble_eq_true rfl, Nat.le_of_ble_eq_true rfl⟩ (Nat.le_of_ble_eq_true rfl) hk40 rfl dL_law_398 ?_
  refine x_icmp_eq C 852 dL_law_401 (by decide) (fun c401 => ?_) (fun c401 => ?_)
  · refine x_iinc C _ dL_law_852 rfl (q_inc3 i) (by decide) [(3, _), (2, _), (1, _), (0, _)] rfl ?_
    refine x_goto C 18 dL_law_855 (by decide) ?_
    exact kk h2 hI2
  · exact absurd rfl c401
set_option maxHeartbeats 4000000 in
set_option maxRecDepth 100000 in
theorem law_10 {X : qX} (C : qC X ML_law) {L : Nat} {xs : Nat → Int32} (Sc : qScr X L xs) (hL : L ≤ 1536) {i : Nat} (hi : i + 3 ≤ L) (hx : xs i &&& nI 31 = nI 10) {h : qH} (hI : Inv h) (kk : ∀ h2, Inv h2 → Ex X ML_law 18 [(3, .int (nI (i + 3))), (2, .ref 40), (1, .ref 0), (0, .ref 3000)] [] h2) : Ex X ML_law 26 [(3, .int (nI i)), (2, .ref 40), (1, .ref 0), (0, .ref 3000)] [] h := by
  obtain ⟨fs0, hk0⟩ := inv_0 hI
  obtain ⟨v, h1, h2, o5, o6, hI2, fs40, hk40⟩ := case_move (xs (i + 1)) h hI
  refine x_aload_n C dL_law_26 rfl ?_
  refine x_iload_n C dL_law_27 rfl ?_
  refine x_sld C Sc dL_law_28 (by omega) hL ?_
  refine x_bipush C (v := nI 31) dL_law_29 (by decide +kernel) ?_
  refine x_iand C dL_law_31 ?_
  rw [hx]
  refine x_tsw C (off := 374) 406 dL_law_32 (by decide +kernel) (by decide +kernel) (by decide +kernel) (by decide) ?_
  refine x_aload_n C dL_law_406 rfl ?_
  refine x_aload_n C dL_law_407 rfl ?_
  refine x_iload_n C dL_law_408 rfl ?_
  refine x_iconst C (v := nI 1) dL_law_409 (by decide +kernel) ?_
  refine x_iaddN C dL_law_410 ?_
  refine x_sld C Sc dL_law_411 (by omega) hL ?_
  refine x_callV1i C o5 lkL_56 miX5_move msX5_move maX5_move ⟨Nat.le_of_ble_eq_true rfl, Nat.le_of_ble_eq_true rfl⟩ (Nat.le_of_ble_eq_true rfl) hk0 rfl dL_law_412 ?_
  refine x_aload_n C dL_law_415 rfl ?_
  refine x_aload_n C dL_law_416 rfl ?_
  refine x_iload_n C dL_law_417 rfl ?_
  refine x_iconst C (v := nI 1) dL_law_418 (by decide +kernel) ?_
  refine x_iaddN C dL_law_419 ?_
  refine x_sld C Sc dL_law_420 (by omega) hL ?_
  refine x_callV1i C o6 lkL_59 miX6_move msX6_move maX6_move ⟨Nat.le_of_ble_eq_true rfl, Nat.le_of_ble_eq_true rfl⟩ (Nat.le_of_ble_eq_true rfl) hk40 rfl dL_law_421 ?_
  refine x_icmp_eq C 852 dL_law_424 (by decide) (fun c424 => ?_) (fun c424 => ?_)
  · refine x_iinc C _ dL_law_852 rfl (q_inc3 i) (by decide) [(3, _), (2, _), (1, _), (0, _)] rfl ?_
    refine x_goto C 18 dL_law_855 (by decide) ?_
    exact kk h2 hI2
  · exact absurd rfl c424
set_option maxHeartbeats 4000000 in
set_option maxRecDepth 100000 in
theorem law_11 {X : qX} (C : qC X ML_law) {L : Nat} {xs : Nat → Int32} (Sc : qScr X L xs) (hL : L ≤ 1536) {i : Nat} (hi : i + 3 ≤ L) (hx : xs i &&& nI 31 = nI 11) {h : qH} (hI : Inv h) (kk : ∀ h2, Inv h2 → Ex X ML_law 18 [(3, .int (nI (i + 3))), (2, .ref 40), (1, .ref 0), (0, .ref 3000)] [] h2) : Ex X ML_law 26 [(3, .int (nI i)), (2, .ref 40), (1, .ref 0), (0, .ref 3000)] [] h := by
  obtain ⟨fs0, hk0⟩ := inv_0 hI
  obtain ⟨v, h1, h2, o5, o6, hI2, fs40, hk40⟩ := case_escapes  h hI
  refine x_aload_n C dL_law_26 rfl ?_
  refine x_iload_n C dL_law_27 rfl ?_
  refine x_sld C Sc dL_law_28 (by omega) hL ?_
  refine x_bipush C (v := nI 31) dL_law_29 (by decide +kernel) ?_
  refine x_iand C dL_law_31 ?_
  rw [hx]
  refine x_tsw C (off := 397) 429 dL_law_32 (by decide +kernel) (by decide +kernel) (by decide +kernel) (by decide) ?_
  refine x_aload_n C dL_law_429 rfl ?_
  refine x_callV0i C o5 lkL_60 miX5_escapes msX5_escapes maX5_escapes ⟨Nat.le_of_ble_eq_true rfl, Nat.le_of_ble_eq_true rfl⟩ (Nat.le_of_ble_eq_true rfl) hk0 rfl dL_law_430 ?_
  refine x_aload_n C dL_law_433 rfl ?_
  refine x_callV0i C o6 lkL_63 miX6_escapes msX6_escapes maX6_escapes ⟨Nat.le_of_ble_eq_true rfl, Nat.le_of_ble_eq_true rfl⟩ (Nat.le_of_ble_eq_true rfl) hk40 rfl dL_law_434 ?_
  refine x_icmp_eq C 852 dL_law_437 (by decide) (fun c437 => ?_) (fun c437 => ?_)
  · refine x_iinc C _ dL_law_852 rfl (q_inc3 i) (by decide) [(3, _), (2, _), (1, _), (0, _)] rfl ?_
    refine x_goto C 18 dL_law_855 (by decide) ?_
    exact kk h2 hI2
  · exact absurd rfl c437
set_option maxHeartbeats 4000000 in
set_option maxRecDepth 100000 in
theorem law_12 {X : qX} (C : qC X ML_law) {L : Nat} {xs : Nat → Int32} (Sc : qScr X L xs) (hL : L ≤ 1536) {i : Nat} (hi : i + 3 ≤ L) (hx : xs i &&& nI 31 = nI 12) {h : qH} (hI : Inv h) (kk : ∀ h2, Inv h2 → Ex X ML_law 18 [(3, .int (nI (i + 3))), (2, .ref 40), (1, .ref 0), (0, .ref 3000)] [] h2) : Ex X ML_law 26 [(3, .int (nI i)), (2, .ref 40), (1, .ref 0), (0, .ref 3000)] [] h := by
  obtain ⟨fs0, hk0⟩ := inv_0 hI
  obtain ⟨v, h1, h2, o5, o6, hI2, fs40, hk40⟩ := case_isFit  h hI
  refine x_aload_n C dL_law_26 rfl ?_
  refine x_iload_n C dL_law_27 rfl ?_
  refine x_sld C Sc dL_law_28 (by omega) hL ?_
  refine x_bipush C (v := nI 31) dL_law_29 (by decide +kernel) ?_
  refine x_iand C dL_law_31 ?_
  rw [hx]
  refine x_tsw C (off := 410) 442 dL_law_32 (by decide +kernel) (by decide +kernel) (by decide +kernel) (by decide) ?_
  refine x_aload_n C dL_law_442 rfl ?_
  refine x_callV0i C o5 lkL_64 miX5_isFit msX5_isFit maX5_isFit ⟨Nat.le_of_ble_eq_true rfl, Nat.le_of_ble_eq_true rfl⟩ (Nat.le_of_ble_eq_true rfl) hk0 rfl dL_law_443 ?_
  refine x_aload_n C dL_law_446 rfl ?_
  refine x_callV0i C o6 lkL_67 miX6_isFit msX6_isFit maX6_isFit ⟨Nat.le_of_ble_eq_true rfl, Nat.le_of_ble_eq_true rfl⟩ (Nat.le_of_ble_eq_true rfl) hk40 rfl dL_law_447 ?_
  refine x_icmp_eq C 852 dL_law_450 (by decide) (fun c450 => ?_) (fun c450 => ?_)
  · refine x_iinc C _ dL_law_852 rfl (q_inc3 i) (by decide) [(3, _), (2, _), (1, _), (0, _)] rfl ?_
    refine x_goto C 18 dL_law_855 (by decide) ?_
    exact kk h2 hI2
  · exact absurd rfl c450
set_option maxHeartbeats 4000000 in
set_option maxRecDepth 100000 in
theorem law_13 {X : qX} (C : qC X ML_law) {L : Nat} {xs : Nat → Int32} (Sc : qScr X L xs) (hL : L ≤ 1536) {i : Nat} (hi : i + 3 ≤ L) (hx : xs i &&& nI 31 = nI 13) {h : qH} (hI : Inv h) (kk : ∀ h2, Inv h2 → Ex X ML_law 18 [(3, .int (nI (i + 3))), (2, .ref 40), (1, .ref 0), (0, .ref 3000)] [] h2) : Ex X ML_law 26 [(3, .int (nI i)), (2, .ref 40), (1, .ref 0), (0, .ref 3000)] [] h := by
  obtain ⟨fs0, hk0⟩ := inv_0 hI
  obtain ⟨v, h1, h2, o5, o6, hI2, fs40, hk40⟩ := case_key (xs (i + 1)) h hI
  refine x_aload_n C dL_law_26 rfl ?_
  refine x_iload_n C dL_law_27 rfl ?_
  refine x_sld C Sc dL_law_28 (by omega) hL ?_
  refine x_bipush C (v := nI 31) dL_law_29 (by decide +kernel) ?_
  refine x_iand C dL_law_31 ?_
  rw [hx]
  refine x_tsw C (off := 423) 455 dL_law_32 (by decide +kernel) (by decide +kernel) (by decide +kernel) (by decide) ?_
  refine x_aload_n C dL_law_455 rfl ?_
  refine x_aload_n C dL_law_456 rfl ?_
  refine x_iload_n C dL_law_457 rfl ?_
  refine x_iconst C (v := nI 1) dL_law_458 (by decide +kernel) ?_
  refine x_iaddN C dL_law_459 ?_
  refine x_sld C Sc dL_law_460 (by omega) hL ?_
  refine x_callV1i C o5 lkL_68 miX5_key msX5_key maX5_key ⟨Nat.le_of_ble_eq_true rfl, Nat.le_of_ble_eq_true rfl⟩ (Nat.le_of_ble_eq_true rfl) hk0 rfl dL_law_461 ?_
  refine x_aload_n C dL_law_464 rfl ?_
  refine x_aload_n C dL_law_465 rfl ?_
  refine x_iload_n C dL_law_466 rfl ?_
  refine x_iconst C (v := nI 1) dL_law_467 (by decide +kernel) ?_
  refine x_iaddN C dL_law_468 ?_
  refine x_sld C Sc dL_law_469 (by omega) hL ?_
  refine x_callV1i C o6 lkL_71 miX6_key msX6_key maX6_key ⟨Nat.le_of_ble_eq_true rfl, Nat.le_of_ble_eq_true rfl⟩ (Nat.le_of_ble_eq_true rfl) hk40 rfl dL_law_470 ?_
  refine x_icmp_eq C 852 dL_law_473 (by decide) (fun c473 => ?_) (fun c473 => ?_)
  · refine x_iinc C _ dL_law_852 rfl (q_inc3 i) (by decide) [(3, _), (2, _), (1, _), (0, _)] rfl ?_
    refine x_goto C 18 dL_law_855 (by decide) ?_
    exact kk h2 hI2
  · exact absurd rfl c473
set_option maxHeartbeats 4000000 in
set_option maxRecDepth 100000 in
theorem law_14 {X : qX} (C : qC X ML_law) {L : Nat} {xs : Nat → Int32} (Sc : qScr X L xs) (hL : L ≤ 1536) {i : Nat} (hi : i + 3 ≤ L) (hx : xs i &&& nI 31 = nI 14) {h : qH} (hI : Inv h) (kk : ∀ h2, Inv h2 → Ex X ML_law 18 [(3, .int (nI (i + 3))), (2, .ref 40), (1, .ref 0), (0, .ref 3000)] [] h2) : Ex X ML_law 26 [(3, .int (nI i)), (2, .ref 40), (1, .ref 0), (0, .ref 3000)] [] h := by
  obtain ⟨fs0, hk0⟩ := inv_0 hI
  obtain ⟨v, h1, h2, o5, o6, hI2, fs40, hk40⟩ := case_kind (xs (i + 1)) (xs (i + 2)) h hI
  refine x_aload_n C dL_law_26 rfl ?_
  refine x_iload_n C dL_law_27 rfl ?_
  refine x_sld C Sc dL_law_28 (by omega) hL ?_
  refine x_bipush C (v := nI 31) dL_law_29 (by decide +kernel) ?_
  refine x_iand C dL_law_31 ?_
  rw [hx]
  refine x_tsw C (off := 446) 478 dL_law_32 (by decide +kernel) (by decide +kernel) (by decide +kernel) (by decide) ?_
  refine x_aload_n C dL_law_478 rfl ?_
  refine x_aload_n C dL_law_479 rfl ?_
  refine x_iload_n C dL_law_480 rfl ?_
  refine x_iconst C (v := nI 1) dL_law_481 (by decide +kernel) ?_
  refine x_iaddN C dL_law_482 ?_
  refine x_sld C Sc dL_law_483 (by omega) hL ?_
  refine x_aload_n C dL_law_484 rfl ?_
  refine x_iload_n C dL_law_485 rfl ?_
  refine x_iconst C (v := nI 2) dL_law_486 (by decide +kernel) ?_
  refine x_iaddN C dL_law_487 ?_
  refine x_sld C Sc dL_law_488 (by omega) hL ?_
  refine x_callV2i C o5 lkL_72 miX5_kind msX5_kind maX5_kind ⟨Nat.le_of_ble_eq_true rfl, Nat.le_of_ble_eq_true rfl⟩ (Nat.le_of_ble_eq_true rfl) hk0 rfl dL_law_489 ?_
  refine x_aload_n C dL_law_492 rfl ?_
  refine x_aload_n C dL_law_493 rfl ?_
  refine x_iload_n C dL_law_494 rfl ?_
  refine x_iconst C (v := nI 1) dL_law_495 (by decide +kernel) ?_
  refine x_iaddN C dL_law_496 ?_
  refine x_sld C Sc dL_law_497 (by omega) hL ?_
  refine x_aload_n C dL_law_498 rfl ?_
  refine x_iload_n C dL_law_499 rfl ?_
  refine x_iconst C (v := nI 2) dL_law_500 (by decide +kernel) ?_
  refine x_iaddN C dL_law_501 ?_
  refine x_sld C Sc dL_law_502 (by omega) hL ?_
  refine x_callV2i C o6 lkL_75 miX6_kind msX6_kind maX6_kind ⟨Nat.le_of_ble_eq_true rfl, Nat.le_of_ble_eq_true rfl⟩ (Nat.le_of_ble_eq_true rfl) hk40 rfl dL_law_503 ?_
  refine x_icmp_eq C 852 dL_law_506 (by decide) (fun c506 => ?_) (fun c506 => ?_)
  · refine x_iinc C _ dL_law_852 rfl (q_inc3 i) (by decide) [(3, _), (2, _), (1, _), (0, _)] rfl ?_
    refine x_goto C 18 dL_law_855 (by decide) ?_
    exact kk h2 hI2
  · exact absurd rfl c506
set_option maxHeartbeats 4000000 in
set_option maxRecDepth 100000 in
theorem law_15 {X : qX} (C : qC X ML_law) {L : Nat} {xs : Nat → Int32} (Sc : qScr X L xs) (hL : L ≤ 1536) {i : Nat} (hi : i + 3 ≤ L) (hx : xs i &&& nI 31 = nI 15) {h : qH} (hI : Inv h) (kk : ∀ h2, Inv h2 → Ex X ML_law 18 [(3, .int (nI (i + 3))), (2, .ref 40), (1, .ref 0), (0, .ref 3000)] [] h2) : Ex X ML_law 26 [(3, .int (nI i)), (2, .ref 40), (1, .ref 0), (0, .ref 3000)] [] h := by
  obtain ⟨fs0, hk0⟩ := inv_0 hI
  obtain ⟨v, h1, h2, o5, o6, hI2, fs40, hk40⟩ := case_refutation (xs (i + 1)) (xs (i + 2)) h hI
  refine x_aload_n C dL_law_26 rfl ?_
  refine x_iload_n C dL_law_27 rfl ?_
  refine x_sld C Sc dL_law_28 (by omega) hL ?_
  refine x_bipush C (v := nI 31) dL_law_29 (by decide +kernel) ?_
  refine x_iand C dL_law_31 ?_
  rw [hx]
  refine x_tsw C (off := 479) 511 dL_law_32 (by decide +kernel) (by decide +kernel) (by decide +kernel) (by decide) ?_
  refine x_aload_n C dL_law_511 rfl ?_
  refine x_aload_n C dL_law_512 rfl ?_
  refine x_iload_n C dL_law_513 rfl ?_
  refine x_iconst C (v := nI 1) dL_law_514 (by decide +kernel) ?_
  refine x_iaddN C dL_law_515 ?_
  refine x_sld C Sc dL_law_516 (by omega) hL ?_
  refine x_aload_n C dL_law_517 rfl ?_
  refine x_iload_n C dL_law_518 rfl ?_
  refine x_iconst C (v := nI 2) dL_law_519 (by decide +kernel) ?_
  refine x_iaddN C dL_law_520 ?_
  refine x_sld C Sc dL_law_521 (by omega) hL ?_
  refine x_callV2i C o5 lkL_76 miX5_refutation msX5_refutation maX5_refutation ⟨Nat.le_of_ble_eq_true rfl, Nat.le_of_ble_eq_true rfl⟩ (Nat.le_of_ble_eq_true rfl) hk0 rfl dL_law_522 ?_
  refine x_aload_n C dL_law_525 rfl ?_
  refine x_aload_n C dL_law_526 rfl ?_
  refine x_iload_n C dL_law_527 rfl ?_
  refine x_iconst C (v := nI 1) dL_law_528 (by decide +kernel) ?_
  refine x_iaddN C dL_law_529 ?_
  refine x_sld C Sc dL_law_530 (by omega) hL ?_
  refine x_aload_n C dL_law_531 rfl ?_
  refine x_iload_n C dL_law_532 rfl ?_
  refine x_iconst C (v := nI 2) dL_law_533 (by decide +kernel) ?_
  refine x_iaddN C dL_law_534 ?_
  refine x_sld C Sc dL_law_535 (by omega) hL ?_
  refine x_callV2i C o6 lkL_79 miX6_refutation msX6_refutation maX6_refutation ⟨Nat.le_of_ble_eq_true rfl, Nat.le_of_ble_eq_true rfl⟩ (Nat.le_of_ble_eq_true rfl) hk40 rfl dL_law_536 ?_
  refine x_icmp_eq C 852 dL_law_539 (by decide) (fun c539 => ?_) (fun c539 => ?_)
  · refine x_iinc C _ dL_law_852 rfl (q_inc3 i) (by decide) [(3, _), (2, _), (1, _), (0, _)] rfl ?_
    refine x_goto C 18 dL_law_855 (by decide) ?_
    exact kk h2 hI2
  · exact absurd rfl c539
set_option maxHeartbeats 4000000 in
set_option maxRecDepth 100000 in
theorem law_16 {X : qX} (C : qC X ML_law) {L : Nat} {xs : Nat → Int32} (Sc : qScr X L xs) (hL : L ≤ 1536) {i : Nat} (hi : i + 3 ≤ L) (hx : xs i &&& nI 31 = nI 16) {h : qH} (hI : Inv h) (kk : ∀ h2, Inv h2 → Ex X ML_law 18 [(3, .int (nI (i + 3))), (2, .ref 40), (1, .ref 0), (0, .ref 3000)] [] h2) : Ex X ML_law 26 [(3, .int (nI i)), (2, .ref 40), (1, .ref 0), (0, .ref 3000)] [] h := by
  obtain ⟨fs0, hk0⟩ := inv_0 hI
  obtain ⟨v, h1, h2, o5, o6, hI2, fs40, hk40⟩ := case_many (xs (i + 1)) h hI
  refine x_aload_n C dL_law_26 rfl ?_
  refine x_iload_n C dL_law_27 rfl ?_
  refine x_sld C Sc dL_law_28 (by omega) hL ?_
  refine x_bipush C (v := nI 31) dL_law_29 (by decide +kernel) ?_
  refine x_iand C dL_law_31 ?_
  rw [hx]
  refine x_tsw C (off := 512) 544 dL_law_32 (by decide +kernel) (by decide +kernel) (by decide +kernel) (by decide) ?_
  refine x_aload_n C dL_law_544 rfl ?_
  refine x_aload_n C dL_law_545 rfl ?_
  refine x_iload_n C dL_law_546 rfl ?_
  refine x_iconst C (v := nI 1) dL_law_547 (by decide +kernel) ?_
  refine x_iaddN C dL_law_548 ?_
  refine x_sld C Sc dL_law_549 (by omega) hL ?_
  refine x_callV1i C o5 lkL_80 miX5_many msX5_many maX5_many ⟨Nat.le_of_ble_eq_true rfl, Nat.le_of_ble_eq_true rfl⟩ (Nat.le_of_ble_eq_true rfl) hk0 rfl dL_law_550 ?_
  refine x_aload_n C dL_law_553 rfl ?_
  refine x_aload_n C dL_law_554 rfl ?_
  refine x_iload_n C dL_law_555 rfl ?_
  refine x_iconst C (v := nI 1) dL_law_556 (by decide +kernel) ?_
  refine x_iaddN C dL_law_557 ?_
  refine x_sld C Sc dL_law_558 (by omega) hL ?_
  refine x_callV1i C o6 lkL_83 miX6_many msX6_many maX6_many ⟨Nat.le_of_ble_eq_true rfl, Nat.le_of_ble_eq_true rfl⟩ (Nat.le_of_ble_eq_true rfl) hk40 rfl dL_law_559 ?_
  refine x_icmp_eq C 852 dL_law_562 (by decide) (fun c562 => ?_) (fun c562 => ?_)
  · refine x_iinc C _ dL_law_852 rfl (q_inc3 i) (by decide) [(3, _), (2, _), (1, _), (0, _)] rfl ?_
    refine x_goto C 18 dL_law_855 (by decide) ?_
    exact kk h2 hI2
  · exact absurd rfl c562
set_option maxHeartbeats 4000000 in
set_option maxRecDepth 100000 in
theorem law_17 {X : qX} (C : qC X ML_law) {L : Nat} {xs : Nat → Int32} (Sc : qScr X L xs) (hL : L ≤ 1536) {i : Nat} (hi : i + 3 ≤ L) (hx : xs i &&& nI 31 = nI 17) {h : qH} (hI : Inv h) (kk : ∀ h2, Inv h2 → Ex X ML_law 18 [(3, .int (nI (i + 3))), (2, .ref 40), (1, .ref 0), (0, .ref 3000)] [] h2) : Ex X ML_law 26 [(3, .int (nI i)), (2, .ref 40), (1, .ref 0), (0, .ref 3000)] [] h := by
  obtain ⟨fs0, hk0⟩ := inv_0 hI
  obtain ⟨v, h1, h2, o5, o6, hI2, fs40, hk40⟩ := case_duals  h hI
  refine x_aload_n C dL_law_26 rfl ?_
  refine x_iload_n C dL_law_27 rfl ?_
  refine x_sld C Sc dL_law_28 (by omega) hL ?_
  refine x_bipush C (v := nI 31) dL_law_29 (by decide +kernel) ?_
  refine x_iand C dL_law_31 ?_
  rw [hx]
  refine x_tsw C (off := 535) 567 dL_law_32 (by decide +kernel) (by decide +kernel) (by decide +kernel) (by decide) ?_
  refine x_aload_n C dL_law_567 rfl ?_
  refine x_callV0i C o5 lkL_84 miX5_duals msX5_duals maX5_duals ⟨Nat.le_of_ble_eq_true rfl, Nat.le_of_ble_eq_true rfl⟩ (Nat.le_of_ble_eq_true rfl) hk0 rfl dL_law_568 ?_
  refine x_aload_n C dL_law_571 rfl ?_
  refine x_callV0i C o6 lkL_87 miX6_duals msX6_duals maX6_duals ⟨Nat.le_of_ble_eq_true rfl, Nat.le_of_ble_eq_true rfl⟩ (Nat.le_of_ble_eq_true rfl) hk40 rfl dL_law_572 ?_
  refine x_icmp_eq C 852 dL_law_575 (by decide) (fun c575 => ?_) (fun c575 => ?_)
  · refine x_iinc C _ dL_law_852 rfl (q_inc3 i) (by decide) [(3, _), (2, _), (1, _), (0, _)] rfl ?_
    refine x_goto C 18 dL_law_855 (by decide) ?_
    exact kk h2 hI2
  · exact absurd rfl c575
set_option maxHeartbeats 4000000 in
set_option maxRecDepth 100000 in
theorem law_18 {X : qX} (C : qC X ML_law) {L : Nat} {xs : Nat → Int32} (Sc : qScr X L xs) (hL : L ≤ 1536) {i : Nat} (hi : i + 3 ≤ L) (hx : xs i &&& nI 31 = nI 18) {h : qH} (hI : Inv h) (kk : ∀ h2, Inv h2 → Ex X ML_law 18 [(3, .int (nI (i + 3))), (2, .ref 40), (1, .ref 0), (0, .ref 3000)] [] h2) : Ex X ML_law 26 [(3, .int (nI i)), (2, .ref 40), (1, .ref 0), (0, .ref 3000)] [] h := by
  obtain ⟨fs0, hk0⟩ := inv_0 hI
  obtain ⟨v, h1, h2, o5, o6, hI2, fs40, hk40⟩ := case_would (xs (i + 1)) (xs (i + 2)) h hI
  refine x_aload_n C dL_law_26 rfl ?_
  refine x_iload_n C dL_law_27 rfl ?_
  refine x_sld C Sc dL_law_28 (by omega) hL ?_
  refine x_bipush C (v := nI 31) dL_law_29 (by decide +kernel) ?_
  refine x_iand C dL_law_31 ?_
  rw [hx]
  refine x_tsw C (off := 548) 580 dL_law_32 (by decide +kernel) (by decide +kernel) (by decide +kernel) (by decide) ?_
  refine x_aload_n C dL_law_580 rfl ?_
  refine x_aload_n C dL_law_581 rfl ?_
  refine x_iload_n C dL_law_582 rfl ?_
  refine x_iconst C (v := nI 1) dL_law_583 (by decide +kernel) ?_
  refine x_iaddN C dL_law_584 ?_
  refine x_sld C Sc dL_law_585 (by omega) hL ?_
  refine x_aload_n C dL_law_586 rfl ?_
  refine x_iload_n C dL_law_587 rfl ?_
  refine x_iconst C (v := nI 2) dL_law_588 (by decide +kernel) ?_
  refine x_iaddN C dL_law_589 ?_
  refine x_sld C Sc dL_law_590 (by omega) hL ?_
  refine x_callV2i C o5 lkL_88 miX5_would msX5_would maX5_would ⟨Nat.le_of_ble_eq_true rfl, Nat.le_of_ble_eq_true rfl⟩ (Nat.le_of_ble_eq_true rfl) hk0 rfl dL_law_591 ?_
  refine x_aload_n C dL_law_594 rfl ?_
  refine x_aload_n C dL_law_595 rfl ?_
  refine x_iload_n C dL_law_596 rfl ?_
  refine x_iconst C (v := nI 1) dL_law_597 (by decide +kernel) ?_
  refine x_iaddN C dL_law_598 ?_
  refine x_sld C Sc dL_law_599 (by omega) hL ?_
  refine x_aload_n C dL_law_600 rfl ?_
  refine x_iload_n C dL_law_601 rfl ?_
  refine x_iconst C (v := nI 2) dL_law_602 (by decide +kernel) ?_
  refine x_iaddN C dL_law_603 ?_
  refine x_sld C Sc dL_law_604 (by omega) hL ?_
  refine x_callV2i C o6 lkL_91 miX6_would msX6_would maX6_would ⟨Nat.le_of_ble_eq_true rfl, Nat.le_of_ble_eq_true rfl⟩ (Nat.le_of_ble_eq_true rfl) hk40 rfl dL_law_605 ?_
  refine x_icmp_eq C 852 dL_law_608 (by decide) (fun c608 => ?_) (fun c608 => ?_)
  · refine x_iinc C _ dL_law_852 rfl (q_inc3 i) (by decide) [(3, _), (2, _), (1, _), (0, _)] rfl ?_
    refine x_goto C 18 dL_law_855 (by decide) ?_
    exact kk h2 hI2
  · exact absurd rfl c608
set_option maxHeartbeats 4000000 in
set_option maxRecDepth 100000 in
theorem law_19 {X : qX} (C : qC X ML_law) {L : Nat} {xs : Nat → Int32} (Sc : qScr X L xs) (hL : L ≤ 1536) {i : Nat} (hi : i + 3 ≤ L) (hx : xs i &&& nI 31 = nI 19) {h : qH} (hI : Inv h) (kk : ∀ h2, Inv h2 → Ex X ML_law 18 [(3, .int (nI (i + 3))), (2, .ref 40), (1, .ref 0), (0, .ref 3000)] [] h2) : Ex X ML_law 26 [(3, .int (nI i)), (2, .ref 40), (1, .ref 0), (0, .ref 3000)] [] h := by
  obtain ⟨fs0, hk0⟩ := inv_0 hI
  obtain ⟨v, h1, h2, o5, o6, hI2, fs40, hk40⟩ := case_ranked (xs (i + 1)) h hI
  refine x_aload_n C dL_law_26 rfl ?_
  refine x_iload_n C dL_law_27 rfl ?_
  refine x_sld C Sc dL_law_28 (by omega) hL ?_
  refine x_bipush C (v := nI 31) dL_law_29 (by decide +kernel) ?_
  refine x_iand C dL_law_31 ?_
  rw [hx]
  refine x_tsw C (off := 581) 613 dL_law_32 (by decide +kernel) (by decide +kernel) (by decide +kernel) (by decide) ?_
  refine x_aload_n C dL_law_613 rfl ?_
  refine x_aload_n C dL_law_614 rfl ?_
  refine x_iload_n C dL_law_615 rfl ?_
  refine x_iconst C (v := nI 1) dL_law_616 (by decide +kernel) ?_
  refine x_iaddN C dL_law_617 ?_
  refine x_sld C Sc dL_law_618 (by omega) hL ?_
  refine x_callV1i C o5 lkL_92 miX5_ranked msX5_ranked maX5_ranked ⟨Nat.le_of_ble_eq_true rfl, Nat.le_of_ble_eq_true rfl⟩ (Nat.le_of_ble_eq_true rfl) hk0 rfl dL_law_619 ?_
  refine x_aload_n C dL_law_622 rfl ?_
  refine x_aload_n C dL_law_623 rfl ?_
  refine x_iload_n C dL_law_624 rfl ?_
  refine x_iconst C (v := nI 1) dL_law_625 (by decide +kernel) ?_
  refine x_iaddN C dL_law_626 ?_
  refine x_sld C Sc dL_law_627 (by omega) hL ?_
  refine x_callV1i C o6 lkL_95 miX6_ranked msX6_ranked maX6_ranked ⟨Nat.le_of_ble_eq_true rfl, Nat.le_of_ble_eq_true rfl⟩ (Nat.le_of_ble_eq_true rfl) hk40 rfl dL_law_628 ?_
  refine x_icmp_eq C 852 dL_law_631 (by decide) (fun c631 => ?_) (fun c631 => ?_)
  · refine x_iinc C _ dL_law_852 rfl (q_inc3 i) (by decide) [(3, _), (2, _), (1, _), (0, _)] rfl ?_
    refine x_goto C 18 dL_law_855 (by decide) ?_
    exact kk h2 hI2
  · exact absurd rfl c631
set_option maxHeartbeats 4000000 in
set_option maxRecDepth 100000 in
theorem law_20 {X : qX} (C : qC X ML_law) {L : Nat} {xs : Nat → Int32} (Sc : qScr X L xs) (hL : L ≤ 1536) {i : Nat} (hi : i + 3 ≤ L) (hx : xs i &&& nI 31 = nI 20) {h : qH} (hI : Inv h) (kk : ∀ h2, Inv h2 → Ex X ML_law 18 [(3, .int (nI (i + 3))), (2, .ref 40), (1, .ref 0), (0, .ref 3000)] [] h2) : Ex X ML_law 26 [(3, .int (nI i)), (2, .ref 40), (1, .ref 0), (0, .ref 3000)] [] h := by
  obtain ⟨fs0, hk0⟩ := inv_0 hI
  obtain ⟨v, h1, h2, o5, o6, hI2, fs40, hk40⟩ := case_show  h hI
  refine x_aload_n C dL_law_26 rfl ?_
  refine x_iload_n C dL_law_27 rfl ?_
  refine x_sld C Sc dL_law_28 (by omega) hL ?_
  refine x_bipush C (v := nI 31) dL_law_29 (by decide +kernel) ?_
  refine x_iand C dL_law_31 ?_
  rw [hx]
  refine x_tsw C (off := 604) 636 dL_law_32 (by decide +kernel) (by decide +kernel) (by decide +kernel) (by decide) ?_
  refine x_aload_n C dL_law_636 rfl ?_
  refine x_callV0i C o5 lkL_96 miX5_show msX5_show maX5_show ⟨Nat.le_of_ble_eq_true rfl, Nat.le_of_ble_eq_true rfl⟩ (Nat.le_of_ble_eq_true rfl) hk0 rfl dL_law_637 ?_
  refine x_aload_n C dL_law_640 rfl ?_
  refine x_callV0i C o6 lkL_99 miX6_show msX6_show maX6_show ⟨Nat.le_of_ble_eq_true rfl, Nat.le_of_ble_eq_true rfl⟩ (Nat.le_of_ble_eq_true rfl) hk40 rfl dL_law_641 ?_
  refine x_icmp_eq C 852 dL_law_644 (by decide) (fun c644 => ?_) (fun c644 => ?_)
  · refine x_iinc C _ dL_law_852 rfl (q_inc3 i) (by decide) [(3, _), (2, _), (1, _), (0, _)] rfl ?_
    refine x_goto C 18 dL_law_855 (by decide) ?_
    exact kk h2 hI2
  · exact absurd rfl c644
set_option maxHeartbeats 4000000 in
set_option maxRecDepth 100000 in
theorem law_21 {X : qX} (C : qC X ML_law) {L : Nat} {xs : Nat → Int32} (Sc : qScr X L xs) (hL : L ≤ 1536) {i : Nat} (hi : i + 3 ≤ L) (hx : xs i &&& nI 31 = nI 21) {h : qH} (hI : Inv h) (kk : ∀ h2, Inv h2 → Ex X ML_law 18 [(3, .int (nI (i + 3))), (2, .ref 40), (1, .ref 0), (0, .ref 3000)] [] h2) : Ex X ML_law 26 [(3, .int (nI i)), (2, .ref 40), (1, .ref 0), (0, .ref 3000)] [] h := by
  obtain ⟨fs0, hk0⟩ := inv_0 hI
  obtain ⟨v, h1, h2, o5, o6, hI2, fs40, hk40⟩ := case_tell (xs (i + 1)) (xs (i + 2)) h hI
  refine x_aload_n C dL_law_26 rfl ?_
  refine x_iload_n C dL_law_27 rfl ?_
  refine x_sld C Sc dL_law_28 (by omega) hL ?_
  refine x_bipush C (v := nI 31) dL_law_29 (by decide +kernel) ?_
  refine x_iand C dL_law_31 ?_
  rw [hx]
  refine x_tsw C (off := 617) 649 dL_law_32 (by decide +kernel) (by decide +kernel) (by decide +kernel) (by decide) ?_
  refine x_aload_n C dL_law_649 rfl ?_
  refine x_aload_n C dL_law_650 rfl ?_
  refine x_iload_n C dL_law_651 rfl ?_
  refine x_iconst C (v := nI 1) dL_law_652 (by decide +kernel) ?_
  refine x_iaddN C dL_law_653 ?_
  refine x_sld C Sc dL_law_654 (by omega) hL ?_
  refine x_aload_n C dL_law_655 rfl ?_
  refine x_iload_n C dL_law_656 rfl ?_
  refine x_iconst C (v := nI 2) dL_law_657 (by decide +kernel) ?_
  refine x_iaddN C dL_law_658 ?_
  refine x_sld C Sc dL_law_659 (by omega) hL ?_
  refine x_callV2i C o5 lkL_100 miX5_tell msX5_tell maX5_tell ⟨Nat.le_of_ble_eq_true rfl, Nat.le_of_ble_eq_true rfl⟩ (Nat.le_of_ble_eq_true rfl) hk0 rfl dL_law_660 ?_
  refine x_aload_n C dL_law_663 rfl ?_
  refine x_aload_n C dL_law_664 rfl ?_
  refine x_iload_n C dL_law_665 rfl ?_
  refine x_iconst C (v := nI 1) dL_law_666 (by decide +kernel) ?_
  refine x_iaddN C dL_law_667 ?_
  refine x_sld C Sc dL_law_668 (by omega) hL ?_
  refine x_aload_n C dL_law_669 rfl ?_
  refine x_iload_n C dL_law_670 rfl ?_
  refine x_iconst C (v := nI 2) dL_law_671 (by decide +kernel) ?_
  refine x_iaddN C dL_law_672 ?_
  refine x_sld C Sc dL_law_673 (by omega) hL ?_
  refine x_callV2i C o6 lkL_103 miX6_tell msX6_tell maX6_tell ⟨Nat.le_of_ble_eq_true rfl, Nat.le_of_ble_eq_true rfl⟩ (Nat.le_of_ble_eq_true rfl) hk40 rfl dL_law_674 ?_
  refine x_icmp_eq C 852 dL_law_677 (by decide) (fun c677 => ?_) (fun c677 => ?_)
  · refine x_iinc C _ dL_law_852 rfl (q_inc3 i) (by decide) [(3, _), (2, _), (1, _), (0, _)] rfl ?_
    refine x_goto C 18 dL_law_855 (by decide) ?_
    exact kk h2 hI2
  · exact absurd rfl c677
set_option maxHeartbeats 4000000 in
set_option maxRecDepth 100000 in
theorem law_22 {X : qX} (C : qC X ML_law) {L : Nat} {xs : Nat → Int32} (Sc : qScr X L xs) (hL : L ≤ 1536) {i : Nat} (hi : i + 3 ≤ L) (hx : xs i &&& nI 31 = nI 22) {h : qH} (hI : Inv h) (kk : ∀ h2, Inv h2 → Ex X ML_law 18 [(3, .int (nI (i + 3))), (2, .ref 40), (1, .ref 0), (0, .ref 3000)] [] h2) : Ex X ML_law 26 [(3, .int (nI i)), (2, .ref 40), (1, .ref 0), (0, .ref 3000)] [] h := by
  obtain ⟨fs0, hk0⟩ := inv_0 hI
  obtain ⟨v, h1, h2, o5, o6, hI2, fs40, hk40⟩ := case_sign (xs (i + 1)) h hI
  refine x_aload_n C dL_law_26 rfl ?_
  refine x_iload_n C dL_law_27 rfl ?_
  refine x_sld C Sc dL_law_28 (by omega) hL ?_
  refine x_bipush C (v := nI 31) dL_law_29 (by decide +kernel) ?_
  refine x_iand C dL_law_31 ?_
  rw [hx]
  refine x_tsw C (off := 650) 682 dL_law_32 (by decide +kernel) (by decide +kernel) (by decide +kernel) (by decide) ?_
  refine x_aload_n C dL_law_682 rfl ?_
  refine x_aload_n C dL_law_683 rfl ?_
  refine x_iload_n C dL_law_684 rfl ?_
  refine x_iconst C (v := nI 1) dL_law_685 (by decide +kernel) ?_
  refine x_iaddN C dL_law_686 ?_
  refine x_sld C Sc dL_law_687 (by omega) hL ?_
  refine x_callV1i C o5 lkL_104 miX5_sign msX5_sign maX5_sign ⟨Nat.le_of_ble_eq_true rfl, Nat.le_of_ble_eq_true rfl⟩ (Nat.le_of_ble_eq_true rfl) hk0 rfl dL_law_688 ?_
  refine x_aload_n C dL_law_691 rfl ?_
  refine x_aload_n C dL_law_692 rfl ?_
  refine x_iload_n C dL_law_693 rfl ?_
  refine x_iconst C (v := nI 1) dL_law_694 (by decide +kernel) ?_
  refine x_iaddN C dL_law_695 ?_
  refine x_sld C Sc dL_law_696 (by omega) hL ?_
  refine x_callV1i C o6 lkL_107 miX6_sign msX6_sign maX6_sign ⟨Nat.le_of_ble_eq_true rfl, Nat.le_of_ble_eq_true rfl⟩ (Nat.le_of_ble_eq_true rfl) hk40 rfl dL_law_697 ?_
  refine x_icmp_eq C 852 dL_law_700 (by decide) (fun c700 => ?_) (fun c700 => ?_)
  · refine x_iinc C _ dL_law_852 rfl (q_inc3 i) (by decide) [(3, _), (2, _), (1, _), (0, _)] rfl ?_
    refine x_goto C 18 dL_law_855 (by decide) ?_
    exact kk h2 hI2
  · exact absurd rfl c700
set_option maxHeartbeats 4000000 in
set_option maxRecDepth 100000 in
theorem law_23 {X : qX} (C : qC X ML_law) {L : Nat} {xs : Nat → Int32} (Sc : qScr X L xs) (hL : L ≤ 1536) {i : Nat} (hi : i + 3 ≤ L) (hx : xs i &&& nI 31 = nI 23) {h : qH} (hI : Inv h) (kk : ∀ h2, Inv h2 → Ex X ML_law 18 [(3, .int (nI (i + 3))), (2, .ref 40), (1, .ref 0), (0, .ref 3000)] [] h2) : Ex X ML_law 26 [(3, .int (nI i)), (2, .ref 40), (1, .ref 0), (0, .ref 3000)] [] h := by
  obtain ⟨fs0, hk0⟩ := inv_0 hI
  obtain ⟨v, h1, h2, o5, o6, hI2, fs40, hk40⟩ := case_append (xs (i + 1)) h hI
  refine x_aload_n C dL_law_26 rfl ?_
  refine x_iload_n C dL_law_27 rfl ?_
  refine x_sld C Sc dL_law_28 (by omega) hL ?_
  refine x_bipush C (v := nI 31) dL_law_29 (by decide +kernel) ?_
  refine x_iand C dL_law_31 ?_
  rw [hx]
  refine x_tsw C (off := 673) 705 dL_law_32 (by decide +kernel) (by decide +kernel) (by decide +kernel) (by decide) ?_
  refine x_aload_n C dL_law_705 rfl ?_
  refine x_aload_n C dL_law_706 rfl ?_
  refine x_iload_n C dL_law_707 rfl ?_
  refine x_iconst C (v := nI 1) dL_law_708 (by decide +kernel) ?_
  refine x_iaddN C dL_law_709 ?_
  refine x_sld C Sc dL_law_710 (by omega) hL ?_
  refine x_callV1i C o5 lkL_108 miX5_append msX5_append maX5_append ⟨Nat.le_of_ble_eq_true rfl, Nat.le_of_ble_eq_true rfl⟩ (Nat.le_of_ble_eq_true rfl) hk0 rfl dL_law_711 ?_
  refine x_aload_n C dL_law_714 rfl ?_
  refine x_aload_n C dL_law_715 rfl ?_
  refine x_iload_n C dL_law_716 rfl ?_
  refine x_iconst C (v := nI 1) dL_law_717 (by decide +kernel) ?_
  refine x_iaddN C dL_law_718 ?_
  refine x_sld C Sc dL_law_719 (by omega) hL ?_
  refine x_callV1i C o6 lkL_111 miX6_append msX6_append maX6_append ⟨Nat.le_of_ble_eq_true rfl, Nat.le_of_ble_eq_true rfl⟩ (Nat.le_of_ble_eq_true rfl) hk40 rfl dL_law_720 ?_
  refine x_icmp_eq C 852 dL_law_723 (by decide) (fun c723 => ?_) (fun c723 => ?_)
  · refine x_iinc C _ dL_law_852 rfl (q_inc3 i) (by decide) [(3, _), (2, _), (1, _), (0, _)] rfl ?_
    refine x_goto C 18 dL_law_855 (by decide) ?_
    exact kk h2 hI2
  · exact absurd rfl c723
set_option maxHeartbeats 4000000 in
set_option maxRecDepth 100000 in
theorem law_24 {X : qX} (C : qC X ML_law) {L : Nat} {xs : Nat → Int32} (Sc : qScr X L xs) (hL : L ≤ 1536) {i : Nat} (hi : i + 3 ≤ L) (hx : xs i &&& nI 31 = nI 24) {h : qH} (hI : Inv h) (kk : ∀ h2, Inv h2 → Ex X ML_law 18 [(3, .int (nI (i + 3))), (2, .ref 40), (1, .ref 0), (0, .ref 3000)] [] h2) : Ex X ML_law 26 [(3, .int (nI i)), (2, .ref 40), (1, .ref 0), (0, .ref 3000)] [] h := by
  obtain ⟨fs0, hk0⟩ := inv_0 hI
  obtain ⟨v, h1, h2, o5, o6, hI2, fs40, hk40⟩ := case_read  h hI
  refine x_aload_n C dL_law_26 rfl ?_
  refine x_iload_n C dL_law_27 rfl ?_
  refine x_sld C Sc dL_law_28 (by omega) hL ?_
  refine x_bipush C (v := nI 31) dL_law_29 (by decide +kernel) ?_
  refine x_iand C dL_law_31 ?_
  rw [hx]
  refine x_tsw C (off := 696) 728 dL_law_32 (by decide +kernel) (by decide +kernel) (by decide +kernel) (by decide) ?_
  refine x_aload_n C dL_law_728 rfl ?_
  refine x_callV0i C o5 lkL_112 miX5_read msX5_read maX5_read ⟨Nat.le_of_ble_eq_true rfl, Nat.le_of_ble_eq_true rfl⟩ (Nat.le_of_ble_eq_true rfl) hk0 rfl dL_law_729 ?_
  refine x_aload_n C dL_law_732 rfl ?_
  refine x_callV0i C o6 lkL_115 miX6_read msX6_read maX6_read ⟨Nat.le_of_ble_eq_true rfl, Nat.le_of_ble_eq_true rfl⟩ (Nat.le_of_ble_eq_true rfl) hk40 rfl dL_law_733 ?_
  refine x_icmp_eq C 852 dL_law_736 (by decide) (fun c736 => ?_) (fun c736 => ?_)
  · refine x_iinc C _ dL_law_852 rfl (q_inc3 i) (by decide) [(3, _), (2, _), (1, _), (0, _)] rfl ?_
    refine x_goto C 18 dL_law_855 (by decide) ?_
    exact kk h2 hI2
  · exact absurd rfl c736
set_option maxHeartbeats 4000000 in
set_option maxRecDepth 100000 in
theorem law_25 {X : qX} (C : qC X ML_law) {L : Nat} {xs : Nat → Int32} (Sc : qScr X L xs) (hL : L ≤ 1536) {i : Nat} (hi : i + 3 ≤ L) (hx : xs i &&& nI 31 = nI 25) {h : qH} (hI : Inv h) (kk : ∀ h2, Inv h2 → Ex X ML_law 18 [(3, .int (nI (i + 3))), (2, .ref 40), (1, .ref 0), (0, .ref 3000)] [] h2) : Ex X ML_law 26 [(3, .int (nI i)), (2, .ref 40), (1, .ref 0), (0, .ref 3000)] [] h := by
  obtain ⟨fs0, hk0⟩ := inv_0 hI
  obtain ⟨v, h1, h2, o5, o6, hI2, fs40, hk40⟩ := case_refusal (xs (i + 1)) h hI
  refine x_aload_n C dL_law_26 rfl ?_
  refine x_iload_n C dL_law_27 rfl ?_
  refine x_sld C Sc dL_law_28 (by omega) hL ?_
  refine x_bipush C (v := nI 31) dL_law_29 (by decide +kernel) ?_
  refine x_iand C dL_law_31 ?_
  rw [hx]
  refine x_tsw C (off := 709) 741 dL_law_32 (by decide +kernel) (by decide +kernel) (by decide +kernel) (by decide) ?_
  refine x_aload_n C dL_law_741 rfl ?_
  refine x_aload_n C dL_law_742 rfl ?_
  refine x_iload_n C dL_law_743 rfl ?_
  refine x_iconst C (v := nI 1) dL_law_744 (by decide +kernel) ?_
  refine x_iaddN C dL_law_745 ?_
  refine x_sld C Sc dL_law_746 (by omega) hL ?_
  refine x_callV1i C o5 lkL_116 miX5_refusal msX5_refusal maX5_refusal ⟨Nat.le_of_ble_eq_true rfl, Nat.le_of_ble_eq_true rfl⟩ (Nat.le_of_ble_eq_true rfl) hk0 rfl dL_law_747 ?_
  refine x_aload_n C dL_law_750 rfl ?_
  refine x_aload_n C dL_law_751 rfl ?_
  refine x_iload_n C dL_law_752 rfl ?_
  refine x_iconst C (v := nI 1) dL_law_753 (by decide +kernel) ?_
  refine x_iaddN C dL_law_754 ?_
  refine x_sld C Sc dL_law_755 (by omega) hL ?_
  refine x_callV1i C o6 lkL_119 miX6_refusal msX6_refusal maX6_refusal ⟨Nat.le_of_ble_eq_true rfl, Nat.le_of_ble_eq_true rfl⟩ (Nat.le_of_ble_eq_true rfl) hk40 rfl dL_law_756 ?_
  refine x_icmp_eq C 852 dL_law_759 (by decide) (fun c759 => ?_) (fun c759 => ?_)
  · refine x_iinc C _ dL_law_852 rfl (q_inc3 i) (by decide) [(3, _), (2, _), (1, _), (0, _)] rfl ?_
    refine x_goto C 18 dL_law_855 (by decide) ?_
    exact kk h2 hI2
  · exact absurd rfl c759
set_option maxHeartbeats 4000000 in
set_option maxRecDepth 100000 in
theorem law_26 {X : qX} (C : qC X ML_law) {L : Nat} {xs : Nat → Int32} (Sc : qScr X L xs) (hL : L ≤ 1536) {i : Nat} (hi : i + 3 ≤ L) (hx : xs i &&& nI 31 = nI 26) {h : qH} (hI : Inv h) (kk : ∀ h2, Inv h2 → Ex X ML_law 18 [(3, .int (nI (i + 3))), (2, .ref 40), (1, .ref 0), (0, .ref 3000)] [] h2) : Ex X ML_law 26 [(3, .int (nI i)), (2, .ref 40), (1, .ref 0), (0, .ref 3000)] [] h := by
  obtain ⟨fs0, hk0⟩ := inv_0 hI
  obtain ⟨v, h1, h2, o5, o6, hI2, fs40, hk40⟩ := case_account (xs (i + 1)) h hI
  refine x_aload_n C dL_law_26 rfl ?_
  refine x_iload_n C dL_law_27 rfl ?_
  refine x_sld C Sc dL_law_28 (by omega) hL ?_
  refine x_bipush C (v := nI 31) dL_law_29 (by decide +kernel) ?_
  refine x_iand C dL_law_31 ?_
  rw [hx]
  refine x_tsw C (off := 732) 764 dL_law_32 (by decide +kernel) (by decide +kernel) (by decide +kernel) (by decide) ?_
  refine x_aload_n C dL_law_764 rfl ?_
  refine x_aload_n C dL_law_765 rfl ?_
  refine x_iload_n C dL_law_766 rfl ?_
  refine x_iconst C (v := nI 1) dL_law_767 (by decide +kernel) ?_
  refine x_iaddN C dL_law_768 ?_
  refine x_sld C Sc dL_law_769 (by omega) hL ?_
  refine x_callV1i C o5 lkL_120 miX5_account msX5_account maX5_account ⟨Nat.le_of_ble_eq_true rfl, Nat.le_of_ble_eq_true rfl⟩ (Nat.le_of_ble_eq_true rfl) hk0 rfl dL_law_770 ?_
  refine x_aload_n C dL_law_773 rfl ?_
  refine x_aload_n C dL_law_774 rfl ?_
  refine x_iload_n C dL_law_775 rfl ?_
  refine x_iconst C (v := nI 1) dL_law_776 (by decide +kernel) ?_
  refine x_iaddN C dL_law_777 ?_
  refine x_sld C Sc dL_law_778 (by omega) hL ?_
  refine x_callV1i C o6 lkL_123 miX6_account msX6_account maX6_account ⟨Nat.le_of_ble_eq_true rfl, Nat.le_of_ble_eq_true rfl⟩ (Nat.le_of_ble_eq_true rfl) hk40 rfl dL_law_779 ?_
  refine x_icmp_eq C 852 dL_law_782 (by decide) (fun c782 => ?_) (fun c782 => ?_)
  · refine x_iinc C _ dL_law_852 rfl (q_inc3 i) (by decide) [(3, _), (2, _), (1, _), (0, _)] rfl ?_
    refine x_goto C 18 dL_law_855 (by decide) ?_
    exact kk h2 hI2
  · exact absurd rfl c782
set_option maxHeartbeats 4000000 in
set_option maxRecDepth 100000 in
theorem law_27 {X : qX} (C : qC X ML_law) {L : Nat} {xs : Nat → Int32} (Sc : qScr X L xs) (hL : L ≤ 1536) {i : Nat} (hi : i + 3 ≤ L) (hx : xs i &&& nI 31 = nI 27) {h : qH} (hI : Inv h) (kk : ∀ h2, Inv h2 → Ex X ML_law 18 [(3, .int (nI (i + 3))), (2, .ref 40), (1, .ref 0), (0, .ref 3000)] [] h2) : Ex X ML_law 26 [(3, .int (nI i)), (2, .ref 40), (1, .ref 0), (0, .ref 3000)] [] h := by
  obtain ⟨fs0, hk0⟩ := inv_0 hI
  obtain ⟨v, h1, h2, o5, o6, hI2, fs40, hk40⟩ := case_isWell  h hI
  refine x_aload_n C dL_law_26 rfl ?_
  refine x_iload_n C dL_law_27 rfl ?_
  refine x_sld C Sc dL_law_28 (by omega) hL ?_
  refine x_bipush C (v := nI 31) dL_law_29 (by decide +kernel) ?_
  refine x_iand C dL_law_31 ?_
  rw [hx]
  refine x_tsw C (off := 755) 787 dL_law_32 (by decide +kernel) (by decide +kernel) (by decide +kernel) (by decide) ?_
  refine x_aload_n C dL_law_787 rfl ?_
  refine x_callV0i C o5 lkL_124 miX5_isWell msX5_isWell maX5_isWell ⟨Nat.le_of_ble_eq_true rfl, Nat.le_of_ble_eq_true rfl⟩ (Nat.le_of_ble_eq_true rfl) hk0 rfl dL_law_788 ?_
  refine x_aload_n C dL_law_791 rfl ?_
  refine x_callV0i C o6 lkL_127 miX6_isWell msX6_isWell maX6_isWell ⟨Nat.le_of_ble_eq_true rfl, Nat.le_of_ble_eq_true rfl⟩ (Nat.le_of_ble_eq_true rfl) hk40 rfl dL_law_792 ?_
  refine x_icmp_eq C 852 dL_law_795 (by decide) (fun c795 => ?_) (fun c795 => ?_)
  · refine x_iinc C _ dL_law_852 rfl (q_inc3 i) (by decide) [(3, _), (2, _), (1, _), (0, _)] rfl ?_
    refine x_goto C 18 dL_law_855 (by decide) ?_
    exact kk h2 hI2
  · exact absurd rfl c795
set_option maxHeartbeats 4000000 in
set_option maxRecDepth 100000 in
theorem law_28 {X : qX} (C : qC X ML_law) {L : Nat} {xs : Nat → Int32} (Sc : qScr X L xs) (hL : L ≤ 1536) {i : Nat} (hi : i + 3 ≤ L) (hx : xs i &&& nI 31 = nI 28) {h : qH} (hI : Inv h) (kk : ∀ h2, Inv h2 → Ex X ML_law 18 [(3, .int (nI (i + 3))), (2, .ref 40), (1, .ref 0), (0, .ref 3000)] [] h2) : Ex X ML_law 26 [(3, .int (nI i)), (2, .ref 40), (1, .ref 0), (0, .ref 3000)] [] h := by
  obtain ⟨fs0, hk0⟩ := inv_0 hI
  obtain ⟨v, h1, h2, o5, o6, hI2, fs40, hk40⟩ := case_share  h hI
  refine x_aload_n C dL_law_26 rfl ?_
  refine x_iload_n C dL_law_27 rfl ?_
  refine x_sld C Sc dL_law_28 (by omega) hL ?_
  refine x_bipush C (v := nI 31) dL_law_29 (by decide +kernel) ?_
  refine x_iand C dL_law_31 ?_
  rw [hx]
  refine x_tsw C (off := 768) 800 dL_law_32 (by decide +kernel) (by decide +kernel) (by decide +kernel) (by decide) ?_
  refine x_aload_n C dL_law_800 rfl ?_
  refine x_callV0i C o5 lkL_128 miX5_share msX5_share maX5_share ⟨Nat.le_of_ble_eq_true rfl, Nat.le_of_ble_eq_true rfl⟩ (Nat.le_of_ble_eq_true rfl) hk0 rfl dL_law_801 ?_
  refine x_aload_n C dL_law_804 rfl ?_
  refine x_callV0i C o6 lkL_131 miX6_share msX6_share maX6_share ⟨Nat.le_of_ble_eq_true rfl, Nat.le_of_ble_eq_true rfl⟩ (Nat.le_of_ble_eq_true rfl) hk40 rfl dL_law_805 ?_
  refine x_icmp_eq C 852 dL_law_808 (by decide) (fun c808 => ?_) (fun c808 => ?_)
  · refine x_iinc C _ dL_law_852 rfl (q_inc3 i) (by decide) [(3, _), (2, _), (1, _), (0, _)] rfl ?_
    refine x_goto C 18 dL_law_855 (by decide) ?_
    exact kk h2 hI2
  · exact absurd rfl c808
set_option maxHeartbeats 4000000 in
set_option maxRecDepth 100000 in
theorem law_29 {X : qX} (C : qC X ML_law) {L : Nat} {xs : Nat → Int32} (Sc : qScr X L xs) (hL : L ≤ 1536) {i : Nat} (hi : i + 3 ≤ L) (hx : xs i &&& nI 31 = nI 29) {h : qH} (hI : Inv h) (kk : ∀ h2, Inv h2 → Ex X ML_law 18 [(3, .int (nI (i + 3))), (2, .ref 40), (1, .ref 0), (0, .ref 3000)] [] h2) : Ex X ML_law 26 [(3, .int (nI i)), (2, .ref 40), (1, .ref 0), (0, .ref 3000)] [] h := by
  obtain ⟨fs0, hk0⟩ := inv_0 hI
  obtain ⟨v, h1, h2, o5, o6, hI2, fs40, hk40⟩ := case_undo  h hI
  refine x_aload_n C dL_law_26 rfl ?_
  refine x_iload_n C dL_law_27 rfl ?_
  refine x_sld C Sc dL_law_28 (by omega) hL ?_
  refine x_bipush C (v := nI 31) dL_law_29 (by decide +kernel) ?_
  refine x_iand C dL_law_31 ?_
  rw [hx]
  refine x_tsw C (off := 781) 813 dL_law_32 (by decide +kernel) (by decide +kernel) (by decide +kernel) (by decide) ?_
  refine x_aload_n C dL_law_813 rfl ?_
  refine x_callV0i C o5 lkL_132 miX5_undo msX5_undo maX5_undo ⟨Nat.le_of_ble_eq_true rfl, Nat.le_of_ble_eq_true rfl⟩ (Nat.le_of_ble_eq_true rfl) hk0 rfl dL_law_814 ?_
  refine x_aload_n C dL_law_817 rfl ?_
  refine x_callV0i C o6 lkL_135 miX6_undo msX6_undo maX6_undo ⟨Nat.le_of_ble_eq_true rfl, Nat.le_of_ble_eq_true rfl⟩ (Nat.le_of_ble_eq_true rfl) hk40 rfl dL_law_818 ?_
  refine x_icmp_eq C 852 dL_law_821 (by decide) (fun c821 => ?_) (fun c821 => ?_)
  · refine x_iinc C _ dL_law_852 rfl (q_inc3 i) (by decide) [(3, _), (2, _), (1, _), (0, _)] rfl ?_
    refine x_goto C 18 dL_law_855 (by decide) ?_
    exact kk h2 hI2
  · exact absurd rfl c821
set_option maxHeartbeats 4000000 in
set_option maxRecDepth 100000 in
theorem law_30 {X : qX} (C : qC X ML_law) {L : Nat} {xs : Nat → Int32} (Sc : qScr X L xs) (hL : L ≤ 1536) {i : Nat} (hi : i + 3 ≤ L) (hx : xs i &&& nI 31 = nI 30) {h : qH} (hI : Inv h) (kk : ∀ h2, Inv h2 → Ex X ML_law 18 [(3, .int (nI (i + 3))), (2, .ref 40), (1, .ref 0), (0, .ref 3000)] [] h2) : Ex X ML_law 26 [(3, .int (nI i)), (2, .ref 40), (1, .ref 0), (0, .ref 3000)] [] h := by
  obtain ⟨fs0, hk0⟩ := inv_0 hI
  obtain ⟨v, h1, h2, o5, o6, hI2, fs40, hk40⟩ := case_save  h hI
  refine x_aload_n C dL_law_26 rfl ?_
  refine x_iload_n C dL_law_27 rfl ?_
  refine x_sld C Sc dL_law_28 (by omega) hL ?_
  refine x_bipush C (v := nI 31) dL_law_29 (by decide +kernel) ?_
  refine x_iand C dL_law_31 ?_
  rw [hx]
  refine x_tsw C (off := 794) 826 dL_law_32 (by decide +kernel) (by decide +kernel) (by decide +kernel) (by decide) ?_
  refine x_aload_n C dL_law_826 rfl ?_
  refine x_callV0i C o5 lkL_136 miX5_save msX5_save maX5_save ⟨Nat.le_of_ble_eq_true rfl, Nat.le_of_ble_eq_true rfl⟩ (Nat.le_of_ble_eq_true rfl) hk0 rfl dL_law_827 ?_
  refine x_aload_n C dL_law_830 rfl ?_
  refine x_callV0i C o6 lkL_139 miX6_save msX6_save maX6_save ⟨Nat.le_of_ble_eq_true rfl, Nat.le_of_ble_eq_true rfl⟩ (Nat.le_of_ble_eq_true rfl) hk40 rfl dL_law_831 ?_
  refine x_icmp_eq C 852 dL_law_834 (by decide) (fun c834 => ?_) (fun c834 => ?_)
  · refine x_iinc C _ dL_law_852 rfl (q_inc3 i) (by decide) [(3, _), (2, _), (1, _), (0, _)] rfl ?_
    refine x_goto C 18 dL_law_855 (by decide) ?_
    exact kk h2 hI2
  · exact absurd rfl c834
set_option maxHeartbeats 4000000 in
set_option maxRecDepth 100000 in
theorem law_31 {X : qX} (C : qC X ML_law) {L : Nat} {xs : Nat → Int32} (Sc : qScr X L xs) (hL : L ≤ 1536) {i : Nat} (hi : i + 3 ≤ L) (hx : xs i &&& nI 31 = nI 31) {h : qH} (hI : Inv h) (kk : ∀ h2, Inv h2 → Ex X ML_law 18 [(3, .int (nI (i + 3))), (2, .ref 40), (1, .ref 0), (0, .ref 3000)] [] h2) : Ex X ML_law 26 [(3, .int (nI i)), (2, .ref 40), (1, .ref 0), (0, .ref 3000)] [] h := by
  obtain ⟨fs0, hk0⟩ := inv_0 hI
  obtain ⟨v, h1, h2, o5, o6, hI2, fs40, hk40⟩ := case_restore  h hI
  refine x_aload_n C dL_law_26 rfl ?_
  refine x_iload_n C dL_law_27 rfl ?_
  refine x_sld C Sc dL_law_28 (by omega) hL ?_
  refine x_bipush C (v := nI 31) dL_law_29 (by decide +kernel) ?_
  refine x_iand C dL_law_31 ?_
  rw [hx]
  refine x_tsw C (off := 807) 839 dL_law_32 (by decide +kernel) (by decide +kernel) (by decide +kernel) (by decide) ?_
  refine x_aload_n C dL_law_839 rfl ?_
  refine x_callV0i C o5 lkL_140 miX5_restore msX5_restore maX5_restore ⟨Nat.le_of_ble_eq_true rfl, Nat.le_of_ble_eq_true rfl⟩ (Nat.le_of_ble_eq_true rfl) hk0 rfl dL_law_840 ?_
  refine x_aload_n C dL_law_843 rfl ?_
  refine x_callV0i C o6 lkL_143 miX6_restore msX6_restore maX6_restore ⟨Nat.le_of_ble_eq_true rfl, Nat.le_of_ble_eq_true rfl⟩ (Nat.le_of_ble_eq_true rfl) hk40 rfl dL_law_844 ?_
  refine x_icmp_eq C 852 dL_law_847 (by decide) (fun c847 => ?_) (fun c847 => ?_)
  · refine x_iinc C _ dL_law_852 rfl (q_inc3 i) (by decide) [(3, _), (2, _), (1, _), (0, _)] rfl ?_
    refine x_goto C 18 dL_law_855 (by decide) ?_
    exact kk h2 hI2
  · exact absurd rfl c847
theorem lt32 {k : Nat} (h : k < 32) : k = 0 ∨ k = 1 ∨ k = 2 ∨ k = 3 ∨ k = 4 ∨ k = 5 ∨ k = 6 ∨ k = 7 ∨ k = 8 ∨ k = 9 ∨ k = 10 ∨ k = 11 ∨ k = 12 ∨ k = 13 ∨ k = 14 ∨ k = 15 ∨ k = 16 ∨ k = 17 ∨ k = 18 ∨ k = 19 ∨ k = 20 ∨ k = 21 ∨ k = 22 ∨ k = 23 ∨ k = 24 ∨ k = 25 ∨ k = 26 ∨ k = 27 ∨ k = 28 ∨ k = 29 ∨ k = 30 ∨ k = 31 := by omega
theorem law_any {X : qX} (C : qC X ML_law) {L : Nat} {xs : Nat → Int32} (Sc : qScr X L xs) (hL : L ≤ 1536) {i : Nat} (hi : i + 3 ≤ L) {h : qH} (hI : Inv h) (kk : ∀ h2, Inv h2 → Ex X ML_law 18 [(3, .int (nI (i + 3))), (2, .ref 40), (1, .ref 0), (0, .ref 3000)] [] h2) : Ex X ML_law 26 [(3, .int (nI i)), (2, .ref 40), (1, .ref 0), (0, .ref 3000)] [] h := by
    obtain ⟨k, hk, hx⟩ := and31 (xs i)
    rcases lt32 hk with rfl | rfl | rfl | rfl | rfl | rfl | rfl | rfl | rfl | rfl | rfl | rfl | rfl | rfl | rfl | rfl | rfl | rfl | rfl | rfl | rfl | rfl | rfl | rfl | rfl | rfl | rfl | rfl | rfl | rfl | rfl | rfl
    · exact law_0 C Sc hL hi hx hI kk
    · exact law_1 C Sc hL hi hx hI kk
    · exact law_2 C Sc hL hi hx hI kk
    · exact law_3 C Sc hL hi hx hI kk
    · exact law_4 C Sc hL hi hx hI kk
    · exact law_5 C Sc hL hi hx hI kk
    · exact law_6 C Sc hL hi hx hI kk
    · exact law_7 C Sc hL hi hx hI kk
    · exact law_8 C Sc hL hi hx hI kk
    · exact law_9 C Sc hL hi hx hI kk
    · exact law_10 C Sc hL hi hx hI kk
    · exact law_11 C Sc hL hi hx hI kk
    · exact law_12 C Sc hL hi hx hI kk
    · exact law_13 C Sc hL hi hx hI kk
    · exact law_14 C Sc hL hi hx hI kk
    · exact law_15 C Sc hL hi hx hI kk
    · exact law_16 C Sc hL hi hx hI kk
    · exact law_17 C Sc hL hi hx hI kk
    · exact law_18 C Sc hL hi hx hI kk
    · exact law_19 C Sc hL hi hx hI kk
    · exact law_20 C Sc hL hi hx hI kk
    · exact law_21 C Sc hL hi hx hI kk
    · exact law_22 C Sc hL hi hx hI kk
    · exact law_23 C Sc hL hi hx hI kk
    · exact law_24 C Sc hL hi hx hI kk
    · exact law_25 C Sc hL hi hx hI kk
    · exact law_26 C Sc hL hi hx hI kk
    · exact law_27 C Sc hL hi hx hI kk
    · exact law_28 C Sc hL hi hx hI kk
    · exact law_29 C Sc hL hi hx hI kk
    · exact law_30 C Sc hL hi hx hI kk
    · exact law_31 C Sc hL hi hx hI kk
set_option maxHeartbeats 4000000 in
set_option maxRecDepth 100000 in
theorem law_loop {X : qX} (C : qC X ML_law) {L : Nat} {xs : Nat → Int32} (Sc : qScr X L xs) (hL : L ≤ 1536) (kend : ∀ (h : qH) (loc : List (Nat × Value)), Ex X ML_law 859 loc [.int 1] h) : ∀ m i (h : qH), Inv h → i ≤ L → L < i + 3 * m + 3 → Ex X ML_law 18 [(3, .int (nI i)), (2, .ref 40), (1, .ref 0), (0, .ref 3000)] [] h := by
  intro m
  induction m with
  | zero =>
    intro i h hI hi hm
    refine x_iload_n C dL_law_18 rfl ?_
    refine x_aload_n C dL_law_19 rfl ?_
    refine x_slen C Sc dL_law_20 ?_
    refine x_iconst C (v := nI 3) dL_law_21 (by decide +kernel) ?_
    refine x_isub C dL_law_22 ?_
    refine x_icmp_gt C 858 dL_law_23 (by decide) (fun c23 => ?_) (fun c23 => ?_)
    · refine x_iconst C (v := nI 1) dL_law_858 (by decide +kernel) ?_
      exact kend _ _
    · exact absurd ((cmp3 hL (by omega)).mpr (by omega)) c23
  | succ m ih =>
    intro i h hI hi hm
    refine x_iload_n C dL_law_18 rfl ?_
    refine x_aload_n C dL_law_19 rfl ?_
    refine x_slen C Sc dL_law_20 ?_
    refine x_iconst C (v := nI 3) dL_law_21 (by decide +kernel) ?_
    refine x_isub C dL_law_22 ?_
    refine x_icmp_gt C 858 dL_law_23 (by decide) (fun c23 => ?_) (fun c23 => ?_)
    · refine x_iconst C (v := nI 1) dL_law_858 (by decide +kernel) ?_
      exact kend _ _
    · have h3 : i + 3 ≤ L := Nat.not_lt.mp (fun z => c23 ((cmp3 hL (by omega)).mpr z))
      exact law_any C Sc hL h3 hI (fun h2 hI2 => ih (i + 3) h2 hI2 (by omega) (by omega))
