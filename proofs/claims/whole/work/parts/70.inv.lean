/-! what holds between the calls of the law -/
def ridx (nx sz j : Nat) : Nat := (nx + 8 - sz + j) % 8
def G1 (a b c d : qP) : Prop := PG a ∧ Bd b.1 ∧ Bd c.1 ∧ PG d
def G2 (R : Nat → qP) (nx sz : Nat) (past : Nat → Nat) (pm : Nat) : Prop := nx < 8 ∧ sz ≤ 8 ∧ (∀ j, j < 8 → PG (R j)) ∧ pm = sz ∧ ∀ j k, j < sz → k < 29 → past (29 * j + k) = sF (R (ridx nx sz j)) k
def G4 (g : Nat → Int32) (n : Nat) (ln : Nat → Nat) (lm : Nat) : Prop := n ≤ 29 ∧ n = lm ∧ ∀ i, i < n → g i = nI (ln i)
def G5 (tx : Nat → Nat) (len : Nat) : Prop := len ≤ 70 ∧ ∀ i, tx i < 128
def G6 (V : qVs) (mr : qmr) : Prop := V.2.1 = -4 ∧ V.2.2.1 = mr.1 ∧ V.2.2.2.1 = mr.2.1 ∧ (V.2.2.1 = 0 ∨ V.2.2.2.2 = mr.2.2.1)
def G7 (V : qVs) (isv : Bool) (sv : Nat → Nat) (d : qP) : Prop := V.1 = isv ∧ (isv = true → ∀ i, i < 29 → sv i = sF d i)
def Inv (h : qH) : Prop := ∃ (a b c d : qP) (R : Nat → qP) (nx sz : Nat) (Tm Tk : Nat → Int32) (ta mc : Nat → Nat) (g : Nat → Int32) (n : Nat) (tx : Nat → Nat) (len : Nat) (q : qQ) (r : qR) (V : qVs) (bf sv past : Nat → Nat) (isv : Bool) (pm : Nat) (mr : qmr) (mm : qmm) (ln : Nat → Nat) (lm a0 : Nat) (wr : Bool) (od : Nat → Nat) (o : Nat),
  h = HH (a, b, c, d) (R, nx, sz) (Tm, Tk, ta, mc) (g, n) (tx, len, q, r) V (sF a, bf, sv, past, isv, pm) mr mm (ln, lm) (tx, len, a0, wr, od, o) ∧
  G1 a b c d ∧ G2 R nx sz past pm ∧ (∀ t, mc t < 100) ∧ G4 g n ln lm ∧ G5 tx len ∧ G6 V mr ∧ G7 V isv sv d
theorem Inv.of {a b c d : qP} {R : Nat → qP} {nx sz : Nat} {Tm Tk : Nat → Int32} {ta mc : Nat → Nat} {g : Nat → Int32} {n : Nat} {tx : Nat → Nat} {len : Nat} {q : qQ} {r : qR} {V : qVs} {bf sv past : Nat → Nat} {isv : Bool} {pm : Nat} {mr : qmr} {mm : qmm} {ln : Nat → Nat} {lm a0 : Nat} {wr : Bool} {od : Nat → Nat} {o : Nat}
    (h1 : G1 a b c d) (h2 : G2 R nx sz past pm) (h3 : ∀ t, mc t < 100) (h4 : G4 g n ln lm) (h5 : G5 tx len) (h6 : G6 V mr) (h7 : G7 V isv sv d) :
    Inv (HH (a, b, c, d) (R, nx, sz) (Tm, Tk, ta, mc) (g, n) (tx, len, q, r) V (sF a, bf, sv, past, isv, pm) mr mm (ln, lm) (tx, len, a0, wr, od, o)) :=
  ⟨a, b, c, d, R, nx, sz, Tm, Tk, ta, mc, g, n, tx, len, q, r, V, bf, sv, past, isv, pm, mr, mm, ln, lm, a0, wr, od, o, rfl, h1, h2, h3, h4, h5, h6, h7⟩
theorem G1.kp {a b c d : qP} {R : Nat → qP} {nx sz : Nat} {past : Nat → Nat} {pm : Nat} (h1 : G1 a b c d) (h2 : G2 R nx sz past pm) : KP (a, b, c, d) (R, nx, sz) :=
  ⟨h1.1.1, h1.2.1, h1.2.2.1, h1.2.2.2.1, fun j hj => (h2.2.2.1 j hj).1, h2.1, h2.2.1⟩
theorem ring_push {R : Nat → qP} {nx sz : Nat} {past : Nat → Nat} {pm : Nat} {a : qP} {bf : Nat → Nat} (h : G2 R nx sz past pm) (ha : PG a) (hbf : ∀ k, k < 29 → bf k = sF a k) : G2 (qUR R nx a) (nxt nx) (szt sz) (pkP past bf pm) (pkM pm + 1) := by
  obtain ⟨h1, h2, h3, rfl, h5⟩ := h
  have hn : nxt nx < 8 ∧ nxt nx = (nx + 1) % 8 := by unfold nxt; split <;> omega
  refine ⟨hn.1, by unfold szt; split <;> omega, fun j hj => ?_, ?_, ?_⟩
  · show PG (if j = nx then a else R j)
    split
    · exact ha
    · exact h3 j hj
  · unfold pkM szt; (repeat' split) <;> omega
  · intro j k hj hk
    unfold pkP
    rw [hn.2]
    by_cases h8 : pm = 8
    · have hs : szt pm = 8 := by unfold szt; rw [if_neg (by omega)]; exact h8
      rw [hs] at hj ⊢
      have hm : pkM pm = 7 := by unfold pkM; rw [if_pos h8]
      rw [hm]
      by_cases e : j = 7
      · subst e
        unfold cpB
        rw [if_pos (by omega)]
        have hr : ridx ((nx + 1) % 8) 8 7 = nx := by unfold ridx; omega
        rw [hr]
        show bf _ = sF (if nx = nx then a else R nx) k
        rw [if_pos rfl, show 0 + (29 * 7 + k - 29 * 7) = k by omega]
        exact hbf k hk
      · have e1 : cpB bf (pkS past pm) 0 (29 * 7) 29 (29 * j + k) = past (29 * (j + 1) + k) := by
          unfold cpB pkS
          rw [if_neg (by omega), if_pos h8]
          unfold cpB
          rw [if_pos (by omega)]
          congr 1
          omega
        rw [e1, h5 (j + 1) k (by omega) hk]
        have hr : ridx ((nx + 1) % 8) 8 j = ridx nx pm (j + 1) := by unfold ridx; omega
        rw [hr]
        have hne : ridx nx pm (j + 1) ≠ nx := by unfold ridx; omega
        show _ = sF (if ridx nx pm (j + 1) = nx then a else R (ridx nx pm (j + 1))) k
        rw [if_neg hne]
    · have hs : szt pm = pm + 1 := by unfold szt; rw [if_pos (by omega)]
      rw [hs] at hj ⊢
      have hm : pkM pm = pm := by unfold pkM; rw [if_neg h8]
      have hS : pkS past pm = past := by unfold pkS; rw [if_neg h8]
      rw [hm, hS]
      have hr : ridx ((nx + 1) % 8) (pm + 1) j = ridx nx pm j := by unfold ridx; omega
      rw [hr]
      by_cases e : j = pm
      · subst e
        unfold cpB
        rw [if_pos (by omega)]
        have hr2 : ridx nx j j = nx := by unfold ridx; omega
        rw [hr2]
        show bf _ = sF (if nx = nx then a else R nx) k
        rw [if_pos rfl, show 0 + (29 * j + k - 29 * j) = k by omega]
        exact hbf k hk
      · unfold cpB
        rw [if_neg (by omega), h5 j k (by omega) hk]
        have hne : ridx nx pm j ≠ nx := by unfold ridx; omega
        show _ = sF (if ridx nx pm j = nx then a else R (ridx nx pm j)) k
        rw [if_neg hne]
theorem bf_at {a : qP} {bf : Nat → Nat} : ∀ k, k < 29 → cpB (sF a) bf 0 0 29 k = sF a k := fun k hk => cpB_at hk
theorem ring_kp {R : Nat → qP} {nx sz : Nat} {past : Nat → Nat} {pm : Nat} {a : qP} {bf : Nat → Nat} (h : G2 R nx sz past pm) (ha : PG a) (x : Int32) : G2 (kpF (R, nx, sz) a x).1 (kpF (R, nx, sz) a x).2.1 (kpF (R, nx, sz) a x).2.2 (paO past (cpB (sF a) bf 0 0 29) pm x) (pmO pm x) := by
  unfold kpF paO pmO
  by_cases hx : x < 0
  · rw [if_pos hx, if_pos hx, if_pos hx]; exact h
  · rw [if_neg hx, if_neg hx, if_neg hx]; exact ring_push h ha bf_at
theorem G6_ref {V : qVs} {mr : qmr} (h : G6 V mr) (o : Option (Int32 × Int32)) : G6 (refV V o) (refR mr o) := by
  obtain ⟨h1, h2, h3, h4⟩ := h
  cases o with
  | none => exact ⟨h1, h2, h3, h4⟩
  | some q => exact ⟨h1, rfl, rfl, Or.inr h1⟩
theorem G6.lo {V : qVs} {r1 d1 it lo lo2 : Int32} (h : G6 V (r1, d1, it, lo)) : G6 V (r1, d1, it, lo2) := h
theorem G7_ref {V : qVs} {isv : Bool} {sv : Nat → Nat} {d : qP} (h : G7 V isv sv d) (o : Option (Int32 × Int32)) : G7 (refV V o) isv sv d := by
  cases o with
  | none => exact h
  | some q => exact h
theorem ring_undo {R : Nat → qP} {nx n : Nat} {past : Nat → Nat} {pm : Nat} (h : G2 R nx (n + 1) past pm) : G2 R (prv nx) n past n ∧ ridx nx (n + 1) n = prv nx := by
  obtain ⟨h1, h2, h3, h4, h5⟩ := h
  have hp : prv nx = (nx + 7) % 8 := by unfold prv; split <;> omega
  refine ⟨⟨prv_lt h1, by omega, h3, rfl, fun j k hj hk => ?_⟩, by rw [hp]; unfold ridx; omega⟩
  rw [h5 j k (by omega) hk]
  have hr : ridx nx (n + 1) j = ridx (prv nx) n j := by rw [hp]; unfold ridx; omega
  rw [hr]
theorem rsn_eq {r1 d1 f1 it x : Int32} (h : r1 = 0 ∨ f1 = it) : rsnF r1 d1 f1 x = rsnF r1 d1 it x := by
  rcases h with h | h
  · unfold rsnF
    split
    · rfl
    · simp only [if_pos h]
  · rw [h]
theorem wrt_at : ∀ (l : List Int32) (g : Nat → Int32) (n i : Nat), i < l.length → wrt g n l (n + i) = l.getD i 0
  | [], g, n, i, h => absurd h (by simp)
  | x :: t, g, n, i, h => by
    rw [wrt]
    cases i with
    | zero =>
      have hk : ∀ (t : List Int32) (g : Nat → Int32) (m : Nat), n < m → wrt g m t n = g n := by
        intro t
        induction t with
        | nil => intro g m _; rfl
        | cons y t ih =>
          intro g m hm
          rw [wrt, ih _ _ (by omega)]
          unfold upd
          rw [if_neg (by omega)]
      show wrt (upd g n x) (n + 1) t n = x
      rw [hk t (upd g n x) (n + 1) (by omega)]
      unfold upd
      rw [if_pos rfl]
    | succ i =>
      rw [List.length_cons] at h
      rw [show n + (i + 1) = n + 1 + i by omega, wrt_at t _ (n + 1) i (by omega)]
      rfl
theorem line_G4 {g : Nat → Int32} {ln : Nat → Nat} {l : List Int32} {m : List Nat} (h : l = m.map nI) (hl : m.length ≤ 29) : G4 (wrt g 0 l) l.length (wl ln m) m.length := by
  subst h
  refine ⟨by rw [List.length_map]; exact hl, List.length_map .., fun i hi => ?_⟩
  rw [List.length_map] at hi
  have h1 := wrt_at (m.map nI) g 0 i (by rw [List.length_map]; exact hi)
  rw [Nat.zero_add] at h1
  rw [h1, wl_at hi, List.getD_eq_getElem?_getD, List.getD_eq_getElem?_getD, List.getElem?_map, List.getElem?_eq_getElem hi]
  rfl
theorem colN_app (b : Nat → Nat) (r : Nat) (hb : ∀ i, b i < 8) : ∀ m c, (colN b r c).map nI ++ colL b r m c = (colN b r (c + m)).map nI
  | 0, c => by rw [colL, List.append_nil, Nat.add_zero]
  | m + 1, c => by
    have ih := colN_app b r hb m (c + 1)
    rw [colL, show c + (m + 1) = c + 1 + m by omega, ← ih, colN, List.map_append, List.append_assoc, List.map_cons, List.map_nil, List.cons_append, List.nil_append, strC_sg (hb _), Nat.mul_comm r 5]
theorem colL_N (b : Nat → Nat) (r : Nat) (hb : ∀ i, b i < 8) : colL b r 5 0 = (colN b r 5).map nI := by
  have h := colN_app b r hb 5 0
  rw [colN, List.map_nil, List.nil_append, Nat.zero_add] at h
  exact h
theorem rowsN_app (b : Nat → Nat) (hb : ∀ i, b i < 8) : ∀ r n, r + n = 5 → (rowsN b n).map nI ++ rowsL b r = (rowsN b 5).map nI
  | 0, n, h => by rw [rowsL, List.append_nil, show n = 5 by omega]
  | r + 1, n, h => by
    have ih := rowsN_app b hb r (n + 1) (by omega)
    rw [← ih, rowsN, rowsL, show 4 - n = r by omega, List.map_append, List.map_append, List.append_assoc, List.append_assoc, colL_N b r hb]
    congr 2
    congr 1
    by_cases e : r = 0
    · rw [if_pos e, if_pos (by omega)]; rfl
    · rw [if_neg e, if_neg (by omega)]; rfl
theorem rowsL_N (b : Nat → Nat) (hb : ∀ i, b i < 8) : rowsL b 5 = (rowsN b 5).map nI := by
  have h := rowsN_app b hb 5 0 rfl
  rw [rowsN, List.map_nil, List.nil_append] at h
  exact h
theorem str1_sg {k : Nat} (h0 : k ≠ 0) (h3 : k ≤ 3) : strC 1 k = nI (kSg k) := (by decide +kernel : ∀ k : Fin 4, k.1 ≠ 0 → strC 1 k.1 = nI (kSg k.1)) ⟨k, by omega⟩ h0
theorem tel6_N {b : Nat → Nat} (hb : ∀ i, b i < 8) (i j : Nat) : tl6 b i j = (tel6 b i j).map nI := by
  unfold tl6 tel6
  rw [strC_sg (hb i)]
  by_cases e : b j = 6
  · rw [if_pos e, if_pos e]; rfl
  · rw [if_neg e, if_neg e]; rfl
theorem tellL_N {b : Nat → Nat} (hb : ∀ i, b i < 8) (i j : Nat) : tellL b i j = (telN b i j).map nI := by
  unfold tellL telN
  by_cases e : kindB (aft b i j) = 0
  · rw [if_pos e, if_pos e]; exact tel6_N hb i j
  · rw [if_neg e, if_neg e, List.map_append, ← tel6_N hb i j, str1_sg e (kindB_le _)]; rfl
theorem telN_len (b : Nat → Nat) (i j : Nat) : (telN b i j).length ≤ 29 := by
  unfold telN tel6
  split <;> simp
theorem lnAt_eq {g : Nat → Int32} {n : Nat} {ln : Nat → Nat} {lm : Nat} (h : G4 g n ln lm) (x : Int32) : lineAt g n x = lnAt ln lm x := by
  obtain ⟨h1, h2, h3⟩ := h
  subst h2
  unfold lineAt lnAt
  by_cases hx : x < 0
  · rw [if_pos hx, if_neg]
    intro z
    obtain ⟨i, hi, e⟩ := inB_of (by omega) z
    subst e
    exact nI_pos (by omega) hx
  · obtain ⟨i, hi, rfl⟩ := nI_of hx
    rw [if_neg hx]
    by_cases hin : n ≤ i
    · rw [if_pos ((nI_leI (by omega) hi).mpr hin), if_neg]
      intro z
      obtain ⟨k, hk, e⟩ := inB_of (by omega) z
      have := (nI_eq hi (by omega)).mp e
      omega
    · rw [if_neg (fun z => hin ((nI_leI (by omega) hi).mp z)), if_pos, nI_clamp hi, h3 i (by omega)]
      cases e : inB (nI i) (nI 0) (nI n - nI 1) with
      | true => rfl
      | false => exact absurd rfl (inB_f (by omega) e i (by omega))
