/-! a position, further: lines, reach, covered, moves -/
def lineN (b : Nat → Nat) (i : Nat) : Nat := cnt (metB b i) 16
set_option maxHeartbeats 4000000 in
set_option maxRecDepth 100000 in
theorem okX3_countLineByLine {h : qH} {k : Nat} {b : Nat → Nat} (hp : PosA h k b) (hb : ∀ i, b i < 8) {i : Nat} (hi : i < 25) : Ok MX3_countLineByLine [.ref k, .int (nI i)] (h) (some (.int (nI (lineN b i)))) (h) := by
  refine ok_of (by decide +kernel) (Nat.zero_le _) (Nat.le_of_ble_eq_true rfl) ?_
  intro X C E
  show Ex X MX3_countLineByLine 0 [(0, .ref k), (1, .int (nI i))] [] (h)
  obtain ⟨⟨f1, f2, f3, f4, h0⟩, h1⟩ := id hp
  have L : ∀ n j : Nat, j + n = 16 → Ex X MX3_countLineByLine 4 [(0, .ref k), (1, .int (nI i)), (2, .int (nI (cnt (metB b i) j))), (3, .int (nI j))] [] (h) := by
    intro n
    induction n with
    | zero =>
      intro j hin 
      have e : j = 16 := by omega
      subst e
      refine x_iload_n C dX3_countLineByLine_4 rfl ?_
      refine x_bipush C (v := nI 16) dX3_countLineByLine_5 (by decide +kernel) ?_
      refine x_icmp_geN C 28 dX3_countLineByLine_7 (by decide) (by omega) (by omega) (fun c7 => ?_) (fun c7 => ?_)
      · refine x_iload_n C dX3_countLineByLine_28 rfl ?_
        exact x_iret E .int dX3_countLineByLine_29 rfl rfl rfl rfl
      · exact absurd c7 (by omega)
    | succ n ih =>
      intro j hin 
      have hlt : j < 16 := by omega
      refine x_iload_n C dX3_countLineByLine_4 rfl ?_
      refine x_bipush C (v := nI 16) dX3_countLineByLine_5 (by decide +kernel) ?_
      refine x_icmp_geN C 28 dX3_countLineByLine_7 (by decide) (by omega) (by omega) (fun c7 => ?_) (fun c7 => ?_)
      · exact absurd c7 (by omega)
      · refine x_aload_n C dX3_countLineByLine_10 rfl ?_
        refine x_iload_n C dX3_countLineByLine_11 rfl ?_
        refine x_iload_n C dX3_countLineByLine_12 rfl ?_
        refine x_callV2i C (okX3_isMetIn hp hb hi hlt) lkX3_59 miX3_isMetIn msX3_isMetIn maX3_isMetIn ⟨Nat.le_of_ble_eq_true rfl, Nat.le_of_ble_eq_true rfl⟩ (Nat.le_of_ble_eq_true rfl) h0 rfl dX3_countLineByLine_13 ?_
        refine x_if_eqB C 22 dX3_countLineByLine_16 (by decide) (fun c16 => ?_) (fun c16 => ?_)
        · have e : cnt (metB b i) j = cnt (metB b i) (j + 1) := by simp [cnt, c16]
          rw [e]
          refine x_iinc C _ dX3_countLineByLine_22 rfl (q_inc _) (by decide) [(3, _), (0, _), (1, _), (2, _)] rfl ?_
          refine x_goto C 4 dX3_countLineByLine_25 (by decide) ?_
          exact x_sub [1, 2, 3, 0] (ih (j + 1) (by omega)) rfl
        · have e : cnt (metB b i) j + 1 = cnt (metB b i) (j + 1) := by simp [cnt, c16]
          refine x_iinc C (nI (cnt (metB b i) (j + 1))) dX3_countLineByLine_19 rfl (by rw [← e]; exact q_inc _) (by decide) [(2, _), (0, _), (1, _), (3, _)] rfl ?_
          refine x_iinc C _ dX3_countLineByLine_22 rfl (q_inc _) (by decide) [(3, _), (2, _), (0, _), (1, _)] rfl ?_
          refine x_goto C 4 dX3_countLineByLine_25 (by decide) ?_
          exact x_sub [2, 3, 1, 0] (ih (j + 1) (by omega)) rfl
  refine x_iconst C (v := nI 0) dX3_countLineByLine_0 (by decide +kernel) ?_
  refine x_istore_n C dX3_countLineByLine_1 (by decide) [(2, _), (0, _), (1, _)] rfl ?_
  refine x_iconst C (v := nI 0) dX3_countLineByLine_2 (by decide +kernel) ?_
  refine x_istore_n C dX3_countLineByLine_3 (by decide) [(3, _), (2, _), (0, _), (1, _)] rfl ?_
  exact x_sub [2, 3, 1, 0] (L 16 0 (by omega)) rfl
def fitsB (b : Nat → Nat) : Bool := match loc7 b 7 with
  | none => false
  | some i => decide (lineN b i = 0)
theorem lineN_le (b : Nat → Nat) (i : Nat) : lineN b i ≤ 16 := cnt_le _ 16
theorem sqI_neg7 {b : Nat → Nat} {v : Nat} : sqI (loc7 b v) < 0 ↔ loc7 b v = none := sqI_neg (fun j hj => by have := (loc7_some hj).1; omega)
set_option maxHeartbeats 4000000 in
set_option maxRecDepth 100000 in
theorem okX3_fits {h : qH} {k : Nat} {b : Nat → Nat} (hp : PosA h k b) (hb : ∀ i, b i < 8) : Ok MX3_fits [.ref k] (h) (some (.int (qb (fitsB b)))) (h) := by
  refine ok_of (by decide +kernel) (Nat.zero_le _) (Nat.le_of_ble_eq_true rfl) ?_
  intro X C E
  show Ex X MX3_fits 0 [(0, .ref k)] [] (h)
  obtain ⟨⟨f1, f2, f3, f4, h0⟩, h1⟩ := id hp
  cases e : loc7 b 7 with
  | none =>
    refine x_aload_n C dX3_fits_0 rfl ?_
    refine x_bipush C (v := nI 7) dX3_fits_1 (by decide +kernel) ?_
    refine x_callV1i C (okX3_squareOf hp hb 7 (by decide)) lkX3_36 miX3_squareOf msX3_squareOf maX3_squareOf ⟨Nat.le_of_ble_eq_true rfl, Nat.le_of_ble_eq_true rfl⟩ (Nat.le_of_ble_eq_true rfl) h0 rfl dX3_fits_3 ?_
    rw [e]
    refine x_istore_n C dX3_fits_6 (by decide) [(1, _), (0, _)] rfl ?_
    refine x_iload_n C dX3_fits_7 rfl ?_
    refine x_if_lt C 23 dX3_fits_8 (by decide) (fun c8 => ?_) (fun c8 => ?_)
    · refine x_iconst C (v := nI 0) dX3_fits_23 (by decide +kernel) ?_
      exact x_iret E .boolean dX3_fits_24 rfl rfl (by unfold fitsB; rw [e]; rfl) rfl
    · exact absurd (by decide : (-1 : Int32) < 0) c8
  | some i =>
    have hi := (loc7_some e).1
    have hle := lineN_le b i
    refine x_aload_n C dX3_fits_0 rfl ?_
    refine x_bipush C (v := nI 7) dX3_fits_1 (by decide +kernel) ?_
    refine x_callV1i C (okX3_squareOf hp hb 7 (by decide)) lkX3_36 miX3_squareOf msX3_squareOf maX3_squareOf ⟨Nat.le_of_ble_eq_true rfl, Nat.le_of_ble_eq_true rfl⟩ (Nat.le_of_ble_eq_true rfl) h0 rfl dX3_fits_3 ?_
    rw [e]
    show Ex X MX3_fits 6 [(0, .ref k)] [.int (nI i)] h
    refine x_istore_n C dX3_fits_6 (by decide) [(1, _), (0, _)] rfl ?_
    refine x_iload_n C dX3_fits_7 rfl ?_
    refine x_if_ltN C 23 dX3_fits_8 (by decide) (by omega) ?_
    refine x_aload_n C dX3_fits_11 rfl ?_
    refine x_iload_n C dX3_fits_12 rfl ?_
    refine x_callV1i C (okX3_countLineByLine hp hb hi) lkX3_40 miX3_countLineByLine msX3_countLineByLine maX3_countLineByLine ⟨Nat.le_of_ble_eq_true rfl, Nat.le_of_ble_eq_true rfl⟩ (Nat.le_of_ble_eq_true rfl) h0 rfl dX3_fits_13 ?_
    refine x_if_neN C 23 dX3_fits_16 (by decide) (by omega) (fun c16 => ?_) (fun c16 => ?_)
    · refine x_iconst C (v := nI 0) dX3_fits_23 (by decide +kernel) ?_
      exact x_iret E .boolean dX3_fits_24 rfl rfl (by unfold fitsB; rw [e]; simp only []; rw [decide_eq_false c16]; rfl) rfl
    · refine x_iconst C (v := nI 1) dX3_fits_19 (by decide +kernel) ?_
      refine x_goto C 24 dX3_fits_20 (by decide) ?_
      exact x_iret E .boolean dX3_fits_24 rfl rfl (by unfold fitsB; rw [e]; simp only []; rw [decide_eq_true c16]; rfl) rfl
def ray (b : Nat → Nat) (d : Nat) : Nat → Nat → Nat → (Nat → Bool) → (Nat → Bool)
  | 0, _, _, p => p
  | n + 1, c, r, p => match stepC c r d with
    | none => p
    | some q => if b (q.2 * 5 + q.1) = 0 then ray b d n q.1 q.2 (fun t => p t || one (q.2 * 5 + q.1) t) else (fun t => p t || one (q.2 * 5 + q.1) t)
def rays (b : Nat → Nat) (i s : Nat) : Nat → Nat → (Nat → Bool) → (Nat → Bool)
  | 0, _, p => p
  | n + 1, d, p => rays b i s n (d + 1) (ray b d s (i % 5) (i / 5) p)
def rF (m : Nat) : Nat := if m = 5 then 8 else if m = 4 then 4 else 0
def rE (m : Nat) : Nat := if m = 5 then 16 else if m = 3 then 4 else 8
def rS (m : Nat) : Nat := if m = 2 ∨ m = 3 ∨ m = 4 then 4 else 1
theorem rF_le (m : Nat) : rF m ≤ rE m := by unfold rF rE; (repeat' split) <;> omega
theorem rE_le (m : Nat) : rE m ≤ 16 := by unfold rE; (repeat' split) <;> omega
theorem rS_le (m : Nat) : rS m ≤ 4 := by unfold rS; split <;> omega
def reachM (b : Nat → Nat) (i m : Nat) : Nat → Bool := rays b i (rS m) (rE m - rF m) (rF m) (fun _ => false)
def reachP (b : Nat → Nat) (i : Nat) : Nat → Bool := if b i = 0 ∨ b i = 6 then fun _ => false else reachM b i (b i)
set_option maxHeartbeats 4000000 in
set_option maxRecDepth 100000 in
theorem okX3_reach {h : qH} {k : Nat} {b : Nat → Nat} (hp : PosA h k b) (hb : ∀ i, b i < 8) {i : Nat} (hi : i < 25) : Ok MX3_reach [.ref k, .int (nI i)] (h) (some (.int (mask (reachP b i)))) (h) := by
  refine ok_of (by decide +kernel) (Nat.zero_le _) (Nat.le_of_ble_eq_true rfl) ?_
  intro X C E
  show Ex X MX3_reach 0 [(0, .ref k), (1, .int (nI i))] [] (h)
  obtain ⟨⟨f1, f2, f3, f4, h0⟩, h1⟩ := id hp
  have hbi := hb i
  have hF := rF_le (b i)
  have hE := rE_le (b i)
  have hS := rS_le (b i)
  have L2 : ∀ d : Nat, d < 16 → ∀ n c r s : Nat, ∀ p : Nat → Bool, s + n = rS (b i) → c < 5 → r < 5 → Ex X MX3_reach 230 [(0, .ref k), (1, .int (nI i)), (2, .int (nI (b i))), (3, .int (nI (rF (b i)))), (4, .int (nI (rE (b i)))), (5, .int (nI (rS (b i)))), (6, .int (mask (ray b d n c r p))), (7, .int (nI d))] [] h → Ex X MX3_reach 138 [(0, .ref k), (1, .int (nI i)), (2, .int (nI (b i))), (3, .int (nI (rF (b i)))), (4, .int (nI (rE (b i)))), (5, .int (nI (rS (b i)))), (6, .int (mask p)), (7, .int (nI d)), (8, .int (nI c)), (9, .int (nI r)), (10, .int (nI s))] [] h := by
    intro d hd n
    induction n with
    | zero =>
      intro c r s p hsn hc hr kk
      refine x_iload C dX3_reach_138 rfl ?_
      refine x_iload C dX3_reach_140 rfl ?_
      refine x_icmp_geN C 230 dX3_reach_142 (by decide) (by omega) (by omega) (fun c142 => ?_) (fun c142 => ?_)
      · exact x_sub [0, 1, 2, 3, 4, 5, 6, 7] (kk) rfl
      · exact absurd c142 (by omega)
    | succ n ih =>
      intro c r s p hsn hc hr kk
      rw [ray] at kk
      refine x_iload C dX3_reach_138 rfl ?_
      refine x_iload C dX3_reach_140 rfl ?_
      refine x_icmp_geN C 230 dX3_reach_142 (by decide) (by omega) (by omega) (fun c142 => ?_) (fun c142 => ?_)
      · exact absurd c142 (by omega)
      · rcases step_cases hc hr hd with ⟨hs, hx⟩ | ⟨c2, r2, hc2, hr2, hs, hx, hy⟩
        · rw [hs] at kk
          refine x_iload C dX3_reach_145 rfl ?_
          refine x_stepc C lfX3_43 dX3_reach_147 ?_
          refine x_iload C dX3_reach_150 rfl ?_
          refine x_stepcN C dX3_reach_152 (by omega) ?_
          refine x_iadd C dX3_reach_153 ?_
          refine x_istore C dX3_reach_154 (by decide) [(8, _), (0, _), (1, _), (2, _), (3, _), (4, _), (5, _), (6, _), (7, _), (9, _), (10, _)] rfl ?_
          refine x_iload C dX3_reach_156 rfl ?_
          refine x_stepr C lfX3_46 dX3_reach_158 ?_
          refine x_iload C dX3_reach_161 rfl ?_
          refine x_steprN C dX3_reach_163 (by omega) ?_
          refine x_iadd C dX3_reach_164 ?_
          refine x_istore C dX3_reach_165 (by decide) [(9, _), (8, _), (0, _), (1, _), (2, _), (3, _), (4, _), (5, _), (6, _), (7, _), (10, _)] rfl ?_
          refine x_iload C dX3_reach_167 rfl ?_
          refine x_if_lt C 230 dX3_reach_169 (by decide) (fun c169 => ?_) (fun c169 => ?_)
          · exact x_sub [2, 3, 4, 5, 6, 7, 8, 9] (kk) rfl
          · refine x_iload C dX3_reach_172 rfl ?_
            refine x_iconst C (v := nI 5) dX3_reach_174 (by decide +kernel) ?_
            refine x_icmp_ge C 230 dX3_reach_175 (by decide) (fun c175 => ?_) (fun c175 => ?_)
            · exact x_sub [2, 3, 4, 5, 6, 7, 8, 9] (kk) rfl
            · refine x_iload C dX3_reach_178 rfl ?_
              refine x_if_lt C 230 dX3_reach_180 (by decide) (fun c180 => ?_) (fun c180 => ?_)
              · exact x_sub [2, 3, 4, 5, 6, 7, 8, 9] (kk) rfl
              · refine x_iload C dX3_reach_183 rfl ?_
                refine x_iconst C (v := nI 5) dX3_reach_185 (by decide +kernel) ?_
                refine x_icmp_lt C 192 dX3_reach_186 (by decide) (fun c186 => ?_) (fun c186 => ?_)
                · rcases hx with hx | hx | hx | hx; exact absurd hx c169; exact absurd hx c175; exact absurd hx c180; exact absurd c186 (Int32.not_lt.mpr hx)
                · refine x_goto C 230 dX3_reach_189 (by decide) ?_
                  exact x_sub [2, 3, 4, 5, 6, 7, 8, 9] (kk) rfl
        · rw [hs] at kk
          simp only [] at kk
          have hb2 := hb (r2 * 5 + c2)
          refine x_iload C dX3_reach_145 rfl ?_
          refine x_stepc C lfX3_43 dX3_reach_147 ?_
          refine x_iload C dX3_reach_150 rfl ?_
          refine x_stepcN C dX3_reach_152 (by omega) ?_
          refine x_iadd C dX3_reach_153 ?_
          rw [hx]
          refine x_istore C dX3_reach_154 (by decide) [(8, _), (0, _), (1, _), (2, _), (3, _), (4, _), (5, _), (6, _), (7, _), (9, _), (10, _)] rfl ?_
          refine x_iload C dX3_reach_156 rfl ?_
          refine x_stepr C lfX3_46 dX3_reach_158 ?_
          refine x_iload C dX3_reach_161 rfl ?_
          refine x_steprN C dX3_reach_163 (by omega) ?_
          refine x_iadd C dX3_reach_164 ?_
          rw [hy]
          refine x_istore C dX3_reach_165 (by decide) [(9, _), (8, _), (0, _), (1, _), (2, _), (3, _), (4, _), (5, _), (6, _), (7, _), (10, _)] rfl ?_
          refine x_iload C dX3_reach_167 rfl ?_
          refine x_if_ltN C 230 dX3_reach_169 (by decide) (by omega) ?_
          refine x_iload C dX3_reach_172 rfl ?_
          refine x_iconst C (v := nI 5) dX3_reach_174 (by decide +kernel) ?_
          refine x_icmp_geN C 230 dX3_reach_175 (by decide) (by omega) (by omega) (fun c175 => ?_) (fun c175 => ?_)
          · exact absurd c175 (by omega)
          · refine x_iload C dX3_reach_178 rfl ?_
            refine x_if_ltN C 230 dX3_reach_180 (by decide) (by omega) ?_
            refine x_iload C dX3_reach_183 rfl ?_
            refine x_iconst C (v := nI 5) dX3_reach_185 (by decide +kernel) ?_
            refine x_icmp_ltN C 192 dX3_reach_186 (by decide) (by omega) (by omega) (fun c186 => ?_) (fun c186 => ?_)
            · refine x_iload C dX3_reach_192 rfl ?_
              refine x_iconst C (v := nI 1) dX3_reach_194 (by decide +kernel) ?_
              refine x_iload C dX3_reach_195 rfl ?_
              refine x_iconst C (v := nI 5) dX3_reach_197 (by decide +kernel) ?_
              refine x_imulN C dX3_reach_198 ?_
              refine x_iload C dX3_reach_199 rfl ?_
              refine x_iaddN C dX3_reach_201 ?_
              refine x_ishl C dX3_reach_202 ?_
              rw [mask_one (by omega)]
              refine x_ior C dX3_reach_203 ?_
              rw [mask_or]
              refine x_istore C dX3_reach_204 (by decide) [(6, _), (9, _), (8, _), (0, _), (1, _), (2, _), (3, _), (4, _), (5, _), (7, _), (10, _)] rfl ?_
              refine x_aload_n C dX3_reach_206 rfl ?_
              refine x_getfield C qk3 0 (by decide) lfX3_9 dX3_reach_207 h0 rfl ?_
              refine x_iload C dX3_reach_210 rfl ?_
              refine x_iconst C (v := nI 5) dX3_reach_212 (by decide +kernel) ?_
              refine x_imulN C dX3_reach_213 ?_
              refine x_iload C dX3_reach_214 rfl ?_
              refine x_iaddN C dX3_reach_216 ?_
              refine x_iald C dX3_reach_217 h1 (by omega) (by decide) ?_
              refine x_if_eqN C 224 dX3_reach_218 (by decide) (by omega) (fun c218 => ?_) (fun c218 => ?_)
              · rw [if_pos c218] at kk
                refine x_iinc C _ dX3_reach_224 rfl (q_inc _) (by decide) [(10, _), (6, _), (9, _), (8, _), (0, _), (1, _), (2, _), (3, _), (4, _), (5, _), (7, _)] rfl ?_
                refine x_goto C 138 dX3_reach_227 (by decide) ?_
                exact x_sub [4, 5, 6, 7, 8, 9, 1, 10, 3, 2, 0] (ih c2 r2 (s + 1) (fun t => p t || one (r2 * 5 + c2) t) (by omega) hc2 hr2 kk) rfl
              · rw [if_neg c218] at kk
                refine x_goto C 230 dX3_reach_221 (by decide) ?_
                exact x_sub [3, 4, 5, 6, 7, 8, 0, 9] (kk) rfl
            · exact absurd c186 (by omega)
  have L1 : ∀ n d : Nat, ∀ p : Nat → Bool, d + n = rE (b i) → mask (reachP b i) = mask (rays b i (rS (b i)) n d p) → Ex X MX3_reach 111 [(0, .ref k), (1, .int (nI i)), (2, .int (nI (b i))), (3, .int (nI (rF (b i)))), (4, .int (nI (rE (b i)))), (5, .int (nI (rS (b i)))), (6, .int (mask p)), (7, .int (nI d))] [] h := by
    intro n
    induction n with
    | zero =>
      intro d p hdn ht
      refine x_iload C dX3_reach_111 rfl ?_
      refine x_iload C dX3_reach_113 rfl ?_
      refine x_icmp_geN C 236 dX3_reach_115 (by decide) (by omega) (by omega) (fun c115 => ?_) (fun c115 => ?_)
      · refine x_iload C dX3_reach_236 rfl ?_
        exact x_iret E .int dX3_reach_238 rfl rfl (by rw [ht]; rfl) rfl
      · exact absurd c115 (by omega)
    | succ n ih =>
      intro d p hdn ht
      have hd : d < 16 := by omega
      refine x_iload C dX3_reach_111 rfl ?_
      refine x_iload C dX3_reach_113 rfl ?_
      refine x_icmp_geN C 236 dX3_reach_115 (by decide) (by omega) (by omega) (fun c115 => ?_) (fun c115 => ?_)
      · exact absurd c115 (by omega)
      · refine x_iload C dX3_reach_118 rfl ?_
        refine x_bipush C (v := nI 16) dX3_reach_120 (by decide +kernel) ?_
        refine x_icmp_geN C 236 dX3_reach_122 (by decide) (by omega) (by omega) (fun c122 => ?_) (fun c122 => ?_)
        · exact absurd c122 (by omega)
        · refine x_iload_n C dX3_reach_125 rfl ?_
          refine x_iconst C (v := nI 5) dX3_reach_126 (by decide +kernel) ?_
          refine x_iremN C dX3_reach_127 (by omega) (by decide) (by decide) ?_
          refine x_istore C dX3_reach_128 (by decide) [(8, _), (0, _), (1, _), (2, _), (3, _), (4, _), (5, _), (6, _), (7, _)] rfl ?_
          refine x_iload_n C dX3_reach_130 rfl ?_
          refine x_iconst C (v := nI 5) dX3_reach_131 (by decide +kernel) ?_
          refine x_idivN C dX3_reach_132 (by omega) (by decide) (by decide) ?_
          refine x_istore C dX3_reach_133 (by decide) [(9, _), (8, _), (0, _), (1, _), (2, _), (3, _), (4, _), (5, _), (6, _), (7, _)] rfl ?_
          refine x_iconst C (v := nI 0) dX3_reach_135 (by decide +kernel) ?_
          refine x_istore C dX3_reach_136 (by decide) [(10, _), (9, _), (8, _), (0, _), (1, _), (2, _), (3, _), (4, _), (5, _), (6, _), (7, _)] rfl ?_
          exact x_sub [3, 4, 5, 6, 7, 8, 9, 10, 2, 1, 0] (L2 d hd (rS (b i)) (i % 5) (i / 5) 0 p (by omega) (by omega) (by omega) (by
          refine x_iinc C _ dX3_reach_230 rfl (q_inc _) (by decide) [(7, _), (0, _), (1, _), (2, _), (3, _), (4, _), (5, _), (6, _)] rfl ?_
          refine x_goto C 111 dX3_reach_233 (by decide) ?_
          exact x_sub [1, 2, 3, 4, 5, 6, 7, 0] (ih (d + 1) (ray b d (rS (b i)) (i % 5) (i / 5) p) (by omega) ht) rfl)) rfl
  by_cases hz : b i = 0 ∨ b i = 6
  · have e : reachP b i = fun _ => false := by unfold reachP; rw [if_pos hz]
    rw [e, mask_none] at E
    refine x_iload_n C dX3_reach_0 rfl ?_
    refine x_if_ltN C 30 dX3_reach_1 (by decide) (by omega) ?_
    refine x_iload_n C dX3_reach_4 rfl ?_
    refine x_bipush C (v := nI 25) dX3_reach_5 (by decide +kernel) ?_
    refine x_icmp_geN C 30 dX3_reach_7 (by decide) (by omega) (by omega) (fun c7 => ?_) (fun c7 => ?_)
    · exact absurd c7 (by omega)
    · refine x_aload_n C dX3_reach_10 rfl ?_
      refine x_getfield C qk3 0 (by decide) lfX3_9 dX3_reach_11 h0 rfl ?_
      refine x_iload_n C dX3_reach_14 rfl ?_
      refine x_iald C dX3_reach_15 h1 (by omega) (by decide) ?_
      refine x_if_eqN C 30 dX3_reach_16 (by decide) (by omega) (fun c16 => ?_) (fun c16 => ?_)
      · refine x_iconst C (v := nI 0) dX3_reach_30 (by decide +kernel) ?_
        exact x_iret E .int dX3_reach_31 rfl rfl rfl rfl
      · refine x_aload_n C dX3_reach_19 rfl ?_
        refine x_getfield C qk3 0 (by decide) lfX3_9 dX3_reach_20 h0 rfl ?_
        refine x_iload_n C dX3_reach_23 rfl ?_
        refine x_iald C dX3_reach_24 h1 (by omega) (by decide) ?_
        refine x_bipush C (v := nI 6) dX3_reach_25 (by decide +kernel) ?_
        refine x_icmp_neN C 32 dX3_reach_27 (by decide) (by omega) (by omega) (fun c27 => ?_) (fun c27 => ?_)
        · omega
        · refine x_iconst C (v := nI 0) dX3_reach_30 (by decide +kernel) ?_
          exact x_iret E .int dX3_reach_31 rfl rfl rfl rfl
  · 
    have J103 : Ex X MX3_reach 103 [(0, .ref k), (1, .int (nI i)), (2, .int (nI (b i))), (3, .int (nI (rF (b i)))), (4, .int (nI (rE (b i))))] [.int (nI (rS (b i)))] h := by
      refine x_istore C dX3_reach_103 (by decide) [(5, _), (0, _), (1, _), (2, _), (3, _), (4, _)] rfl ?_
      refine x_iconst C (v := nI 0) dX3_reach_105 (by decide +kernel) ?_
      rw [← mask_none]
      refine x_istore C dX3_reach_106 (by decide) [(6, _), (5, _), (0, _), (1, _), (2, _), (3, _), (4, _)] rfl ?_
      refine x_iload_n C dX3_reach_108 rfl ?_
      refine x_istore C dX3_reach_109 (by decide) [(7, _), (6, _), (5, _), (0, _), (1, _), (2, _), (3, _), (4, _)] rfl ?_
      exact x_sub [3, 4, 5, 6, 7, 2, 1, 0] (L1 (rE (b i) - rF (b i)) (rF (b i)) (fun _ => false) (by omega) (by unfold reachP; rw [if_neg (by omega)]; rfl)) rfl
    have J81 : Ex X MX3_reach 81 [(0, .ref k), (1, .int (nI i)), (2, .int (nI (b i))), (3, .int (nI (rF (b i))))] [.int (nI (rE (b i)))] h := by
      refine x_istore C dX3_reach_81 (by decide) [(4, _), (0, _), (1, _), (2, _), (3, _)] rfl ?_
      refine x_iload_n C dX3_reach_83 rfl ?_
      refine x_iconst C (v := nI 2) dX3_reach_84 (by decide +kernel) ?_
      refine x_icmp_eqN C 98 dX3_reach_85 (by decide) (by omega) (by omega) (fun c85 => ?_) (fun c85 => ?_)
      · refine x_iconst C (v := nI 4) dX3_reach_98 (by decide +kernel) ?_
        refine x_goto C 103 dX3_reach_99 (by decide) ?_
        refine x_top (v := nI (rS (b i))) (by unfold rS; simp [*]) ?_
        exact x_sub [1, 2, 3, 4, 0] J103 rfl
      · refine x_iload_n C dX3_reach_88 rfl ?_
        refine x_iconst C (v := nI 3) dX3_reach_89 (by decide +kernel) ?_
        refine x_icmp_eqN C 98 dX3_reach_90 (by decide) (by omega) (by omega) (fun c90 => ?_) (fun c90 => ?_)
        · refine x_iconst C (v := nI 4) dX3_reach_98 (by decide +kernel) ?_
          refine x_goto C 103 dX3_reach_99 (by decide) ?_
          refine x_top (v := nI (rS (b i))) (by unfold rS; simp [*]) ?_
          exact x_sub [1, 2, 3, 4, 0] J103 rfl
        · refine x_iload_n C dX3_reach_93 rfl ?_
          refine x_iconst C (v := nI 4) dX3_reach_94 (by decide +kernel) ?_
          refine x_icmp_neN C 102 dX3_reach_95 (by decide) (by omega) (by omega) (fun c95 => ?_) (fun c95 => ?_)
          · refine x_iconst C (v := nI 1) dX3_reach_102 (by decide +kernel) ?_
            refine x_top (v := nI (rS (b i))) (by unfold rS; simp [*]) ?_
            exact x_sub [1, 2, 3, 4, 0] J103 rfl
          · refine x_iconst C (v := nI 4) dX3_reach_98 (by decide +kernel) ?_
            refine x_goto C 103 dX3_reach_99 (by decide) ?_
            refine x_top (v := nI (rS (b i))) (by unfold rS; simp [*]) ?_
            exact x_sub [1, 2, 3, 4, 0] J103 rfl
    have J59 : Ex X MX3_reach 59 [(0, .ref k), (1, .int (nI i)), (2, .int (nI (b i)))] [.int (nI (rF (b i)))] h := by
      refine x_istore_n C dX3_reach_59 (by decide) [(3, _), (0, _), (1, _), (2, _)] rfl ?_
      refine x_iload_n C dX3_reach_60 rfl ?_
      refine x_iconst C (v := nI 5) dX3_reach_61 (by decide +kernel) ?_
      refine x_icmp_neN C 70 dX3_reach_62 (by decide) (by omega) (by omega) (fun c62 => ?_) (fun c62 => ?_)
      · refine x_iload_n C dX3_reach_70 rfl ?_
        refine x_iconst C (v := nI 3) dX3_reach_71 (by decide +kernel) ?_
        refine x_icmp_neN C 79 dX3_reach_72 (by decide) (by omega) (by omega) (fun c72 => ?_) (fun c72 => ?_)
        · refine x_bipush C (v := nI 8) dX3_reach_79 (by decide +kernel) ?_
          refine x_top (v := nI (rE (b i))) (by unfold rE; simp [*]) ?_
          exact x_sub [1, 2, 3, 0] J81 rfl
        · refine x_iconst C (v := nI 4) dX3_reach_75 (by decide +kernel) ?_
          refine x_goto C 81 dX3_reach_76 (by decide) ?_
          refine x_top (v := nI (rE (b i))) (by unfold rE; simp [*]) ?_
          exact x_sub [1, 2, 3, 0] J81 rfl
      · refine x_bipush C (v := nI 16) dX3_reach_65 (by decide +kernel) ?_
        refine x_goto C 81 dX3_reach_67 (by decide) ?_
        refine x_top (v := nI (rE (b i))) (by unfold rE; simp [*]) ?_
        exact x_sub [1, 2, 3, 0] J81 rfl
    refine x_iload_n C dX3_reach_0 rfl ?_
    refine x_if_ltN C 30 dX3_reach_1 (by decide) (by omega) ?_
    refine x_iload_n C dX3_reach_4 rfl ?_
    refine x_bipush C (v := nI 25) dX3_reach_5 (by decide +kernel) ?_
    refine x_icmp_geN C 30 dX3_reach_7 (by decide) (by omega) (by omega) (fun c7 => ?_) (fun c7 => ?_)
    · exact absurd c7 (by omega)
    · refine x_aload_n C dX3_reach_10 rfl ?_
      refine x_getfield C qk3 0 (by decide) lfX3_9 dX3_reach_11 h0 rfl ?_
      refine x_iload_n C dX3_reach_14 rfl ?_
      refine x_iald C dX3_reach_15 h1 (by omega) (by decide) ?_
      refine x_if_eqN C 30 dX3_reach_16 (by decide) (by omega) (fun c16 => ?_) (fun c16 => ?_)
      · omega
      · refine x_aload_n C dX3_reach_19 rfl ?_
        refine x_getfield C qk3 0 (by decide) lfX3_9 dX3_reach_20 h0 rfl ?_
        refine x_iload_n C dX3_reach_23 rfl ?_
        refine x_iald C dX3_reach_24 h1 (by omega) (by decide) ?_
        refine x_bipush C (v := nI 6) dX3_reach_25 (by decide +kernel) ?_
        refine x_icmp_neN C 32 dX3_reach_27 (by decide) (by omega) (by omega) (fun c27 => ?_) (fun c27 => ?_)
        · refine x_aload_n C dX3_reach_32 rfl ?_
          refine x_getfield C qk3 0 (by decide) lfX3_9 dX3_reach_33 h0 rfl ?_
          refine x_iload_n C dX3_reach_36 rfl ?_
          refine x_iald C dX3_reach_37 h1 (by omega) (by decide) ?_
          refine x_istore_n C dX3_reach_38 (by decide) [(2, _), (0, _), (1, _)] rfl ?_
          refine x_iload_n C dX3_reach_39 rfl ?_
          refine x_iconst C (v := nI 5) dX3_reach_40 (by decide +kernel) ?_
          refine x_icmp_neN C 49 dX3_reach_41 (by decide) (by omega) (by omega) (fun c41 => ?_) (fun c41 => ?_)
          · refine x_iload_n C dX3_reach_49 rfl ?_
            refine x_iconst C (v := nI 4) dX3_reach_50 (by decide +kernel) ?_
            refine x_icmp_neN C 58 dX3_reach_51 (by decide) (by omega) (by omega) (fun c51 => ?_) (fun c51 => ?_)
            · refine x_iconst C (v := nI 0) dX3_reach_58 (by decide +kernel) ?_
              refine x_top (v := nI (rF (b i))) (by unfold rF; simp [*]) ?_
              exact x_sub [1, 2, 0] J59 rfl
            · refine x_iconst C (v := nI 4) dX3_reach_54 (by decide +kernel) ?_
              refine x_goto C 59 dX3_reach_55 (by decide) ?_
              refine x_top (v := nI (rF (b i))) (by unfold rF; simp [*]) ?_
              exact x_sub [1, 2, 0] J59 rfl
          · refine x_bipush C (v := nI 8) dX3_reach_44 (by decide +kernel) ?_
            refine x_goto C 59 dX3_reach_46 (by decide) ?_
            refine x_top (v := nI (rF (b i))) (by unfold rF; simp [*]) ?_
            exact x_sub [1, 2, 0] J59 rfl
        · omega
set_option maxHeartbeats 4000000 in
set_option maxRecDepth 100000 in
theorem okX3_reach_out {h : qH} {k : Nat} {b : Nat → Nat} (hp : PosA h k b) {x : Int32} (hx : isSq x = false) : Ok MX3_reach [.ref k, .int x] (h) (some (.int (nI 0))) (h) := by
  refine ok_of (by decide +kernel) (Nat.zero_le _) (Nat.le_of_ble_eq_true rfl) ?_
  intro X C E
  show Ex X MX3_reach 0 [(0, .ref k), (1, .int x)] [] (h)
  refine x_iload_n C dX3_reach_0 rfl ?_
  refine x_if_lt C 30 dX3_reach_1 (by decide) (fun c1 => ?_) (fun c1 => ?_)
  · refine x_iconst C (v := nI 0) dX3_reach_30 (by decide +kernel) ?_
    exact x_iret E .int dX3_reach_31 rfl rfl rfl rfl
  · refine x_iload_n C dX3_reach_4 rfl ?_
    refine x_bipush C (v := nI 25) dX3_reach_5 (by decide +kernel) ?_
    refine x_icmp_ge C 30 dX3_reach_7 (by decide) (fun c7 => ?_) (fun c7 => ?_)
    · refine x_iconst C (v := nI 0) dX3_reach_30 (by decide +kernel) ?_
      exact x_iret E .int dX3_reach_31 rfl rfl rfl rfl
    · exact absurd hx (by simp only [isSq, c1, c7, decide_false, Bool.not_false, Bool.and_self]; decide)
