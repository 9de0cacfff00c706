/-! the law's calls: read -/
def VQ (V W : qVs) : Prop := V.2.2.1 = W.2.2.1 ∧ V.2.2.2.1 = W.2.2.2.1 ∧ (V.2.2.1 = 0 ∨ V.2.2.2.2 = W.2.2.2.2)
theorem VQ.step {V W : qVs} (h : VQ V W) (k : Nat) (o : qOut) : VQ (refP (cmdV V k) o) (refP (cmdV W k) o) := by
  unfold refP
  cases o.2.1 with
  | none => exact h
  | some q => exact ⟨rfl, rfl, Or.inr rfl⟩
theorem rdR_V {wh og sq : Nat → Int32} : ∀ m k (x : Int32) (a c : qP) (Tk : Nat → Int32) (V W : qVs), VQ V W →
    (rdR wh og sq m k (x, a, c, Tk, V)).1 = (rdR wh og sq m k (x, a, c, Tk, W)).1 ∧ (rdR wh og sq m k (x, a, c, Tk, V)).2.1 = (rdR wh og sq m k (x, a, c, Tk, W)).2.1 ∧
    VQ (rdR wh og sq m k (x, a, c, Tk, V)).2.2.2.2 (rdR wh og sq m k (x, a, c, Tk, W)).2.2.2.2 ∧ (rdR wh og sq m k (x, a, c, Tk, V)).2.2.2.2.1 = V.1
  | 0, k, x, a, c, Tk, V, W, h => ⟨rfl, rfl, h, rfl⟩
  | m + 1, k, x, a, c, Tk, V, W, h => by
    rw [rdR, rdR]
    by_cases hx : ((x, a, c, Tk, V) : qRd).1 < 0
    · rw [if_pos hx, if_pos (show ((x, a, c, Tk, W) : qRd).1 < 0 from hx)]
      exact ⟨rfl, rfl, h, rfl⟩
    · rw [if_neg hx, if_neg (show ¬ ((x, a, c, Tk, W) : qRd).1 < 0 from hx)]
      unfold rd1
      simp only []
      generalize cmdO a c Tk (wh k) (og k) (sq k) = oo
      obtain ⟨p1, p2, p3, p4⟩ := rdR_V m (k + 1) oo.1 oo.2.2 (cmdC a c Tk (wh k)) (cmdK a Tk (wh k)) _ _ (h.step k oo)
      refine ⟨p1, p2, p3, p4.trans ?_⟩
      unfold refP
      cases oo.2.1 <;> rfl
theorem rdR_inv {wh og sq : Nat → Int32} {od : Nat → Nat} {oN : Nat} (hrel : ∀ k, k < oN → OrdR (wh k) (og k) (sq k) (od (3 * k)) (od (3 * k + 1)) (od (3 * k + 2))) : ∀ m k, k + m ≤ oN → ∀ (x : Int32) (a c : qP) (Tk : Nat → Int32) (V : qVs), PG a → Bd c.1 →
    PG (rdR wh og sq m k (x, a, c, Tk, V)).2.1 ∧ Bd (rdR wh og sq m k (x, a, c, Tk, V)).2.2.1.1
  | 0, k, hk, x, a, c, Tk, V, h1, h2 => ⟨h1, h2⟩
  | m + 1, k, hk, x, a, c, Tk, V, h1, h2 => by
    rw [rdR]
    by_cases hx : ((x, a, c, Tk, V) : qRd).1 < 0
    · rw [if_pos hx]; exact ⟨h1, h2⟩
    · rw [if_neg hx]
      unfold rd1
      simp only []
      rw [(hrel k (by omega)).2 a c Tk]
      exact rdR_inv hrel m (k + 1) (by omega) _ _ _ _ _ (cmdN_PG h1 h2) (cmdC_Bd h1.1 h2)
theorem kp_if {Hs : qHs} {b : qP} {oN : Nat} {fin : qRd} (h : oN < 2147483648) : (if fin.1 < 0 then Hs else (qUR Hs.1 Hs.2.1 b, nxt Hs.2.1, szt Hs.2.2)) = kpF Hs b (ansR oN fin) := by
  unfold kpF
  by_cases e : fin.1 < 0
  · rw [if_pos e, ansR_n e, if_pos (by decide)]
  · rw [if_neg e, ansR_p e, if_neg (nI_pos h)]
set_option maxHeartbeats 4000000 in
set_option maxRecDepth 100000 in
theorem case_read : CaseOk MX5_read MX6_read [] := by
  intro h hi
  obtain ⟨a, b, c, d, R, nx, sz, Tm, Tk, ta, mc, g, n, tx, len, q, r, V, bf, sv, past, isv, pm, ⟨r1, d1, it, lo⟩, ⟨mv, mn, ks, tn⟩, ln, lm, a0, wr, od, o, rfl, i1, i2, i3, i4, i5, i6, i7⟩ := hi
  have hg := i1.1
  have ha := hg.1
  have hp : pm ≤ 8 := by rw [i2.2.2.2.1]; exact i2.2.1
  have hrel := read_rel (n := len) i5.2 q (r.1, r.2.1, r.2.2.1, 0) rfl od
  have hzb := pzF_b (tx := tx) (n := len) (od := od)
  have hcm := prs_cm (tx := tx) len 0 0 q (r.1, r.2.1, r.2.2.1, 0) (by have := i5.1; omega) (Nat.zero_le _) (by show 2 * 0 ≤ _; omega)
  by_cases hbad : (pzF tx len od).2.1 = true ∨ (pzF tx len od).1 < len
  · have e1 := hrel.1 hbad
    have hz : (pzF tx len od).1 < 2147483648 := by have := i5.1; have := hzb.1; omega
    have h5 := okX5_read_p0 (a0 := a) (b := b) (c0 := c) (d := d) (Hs := (R, nx, sz)) (L := (g, n)) (V0 := V) (ms := (sF a, bf, sv, past, isv, pm)) (mr := (r1, d1, it, lo)) (mm := (mv, mn, ks, tn)) (ml := (ln, lm)) (mt := (tx, len, a0, wr, od, o)) (tx := tx) (n := len) (q := q) (r := r) (Tm := Tm) (Tk0 := Tk) (ta := ta) (mc := mc) i5.1 i5.2 (by rw [e1]; exact nI_pos hz)
    have h6 := fun q2 r2 => okX6_read_p0 (P := (a, b, c, d)) (Hs := (R, nx, sz)) (T := (Tm, Tk, ta, mc)) (L := (g, n)) (S := (tx, 0, q2, r2)) (V := V) (ml := (ln, lm)) (bf := bf) (sv := sv) (past := past) (isv := isv) (pm := pm) (tx := tx) (od := od) (n := len) (a0 := a0) (o := o) (wr := wr) (r1 := r1) (d1 := d1) (it := it) (tn := tn) (w := (lo, mv, mn, ks)) (a := a) i5.1 i5.2 hbad
    rw [e1] at h5
    generalize prs tx len 0 0 q (r.1, r.2.1, r.2.2.1, 0) = p at h5
    generalize pzF tx len od = z at h5 h6
    exact case_mk h5 rfl (h6 _ _) (Inv.of i1 i2 i3 i4 ⟨Nat.zero_le _, i5.2⟩ i6 i7)
  · obtain ⟨e1, e2, e3⟩ := hrel.2 hbad
    have hok : (pzF tx len od).2.1 = false ∧ ¬ (pzF tx len od).1 < len := by
      refine ⟨?_, fun z => hbad (Or.inr z)⟩
      cases e : (pzF tx len od).2.1 with
      | false => rfl
      | true => exact absurd (Or.inl e) hbad
    have h5 := okX5_read_p1 (a0 := a) (b := b) (c0 := c) (d := d) (Hs := (R, nx, sz)) (L := (g, n)) (V0 := V) (ms := (sF a, bf, sv, past, isv, pm)) (mr := (r1, d1, it, lo)) (mm := (mv, mn, ks, tn)) (ml := (ln, lm)) (mt := (tx, len, a0, wr, od, o)) (tx := tx) (n := len) (q := q) (r := r) (Tm := Tm) (Tk0 := Tk) (ta := ta) (mc := mc) i5.1 i5.2 (by rw [e1]; decide) hcm ha i1.2.1 i1.2.2.1 ⟨i2.1, i2.2.1, fun j hj => (i2.2.2.1 j hj).1⟩
    have hoN : (pzF tx len od).2.2.2 ≤ 70 := by have := i5.1; omega
    have h6 := fun P2 Hs2 T2 V2 q2 r2 => okX6_read_p1 (P := P2) (Hs := Hs2) (T := T2) (L := (g, n)) (S := (tx, 0, q2, r2)) (V := V2) (ml := (ln, lm)) (bf := bf) (sv := sv) (past := past) (isv := isv) (pm := pm) (tx := tx) (od := od) (n := len) (a0 := a0) (o := o) (wr := wr) (r1 := r1) (d1 := d1) (it := it) (tn := tn) (w := (lo, mv, mn, ks)) (a := a) (wh := (prs tx len 0 0 q (r.1, r.2.1, r.2.2.1, 0)).2.2.1) (og := (prs tx len 0 0 q (r.1, r.2.1, r.2.2.1, 0)).2.2.2.1) (sq := (prs tx len 0 0 q (r.1, r.2.1, r.2.2.1, 0)).2.2.2.2.1) (oN := (pzF tx len od).2.2.2) (c := c) (Tk := Tk) (V0 := (V.1, V.2.1, r1, d1, it)) i5.1 i5.2 hg i1.2.2.1 hp ⟨rfl, rfl, rfl⟩ hok rfl e3
    have hinv := rdR_inv e3 (pzF tx len od).2.2.2 0 (by omega) (nI 0) a c Tk V hg i1.2.2.1
    have hVQ : VQ V (V.1, V.2.1, r1, d1, it) := ⟨i6.2.1, i6.2.2.1, i6.2.2.2⟩
    obtain ⟨p1, p2, p3, p4⟩ := rdR_V (wh := (prs tx len 0 0 q (r.1, r.2.1, r.2.2.1, 0)).2.2.1) (og := (prs tx len 0 0 q (r.1, r.2.1, r.2.2.1, 0)).2.2.2.1) (sq := (prs tx len 0 0 q (r.1, r.2.1, r.2.2.1, 0)).2.2.2.2.1) (pzF tx len od).2.2.2 0 (nI 0) a c Tk V (V.1, V.2.1, r1, d1, it) hVQ
    rw [e2] at h5
    generalize prs tx len 0 0 q (r.1, r.2.1, r.2.2.1, 0) = p at h5 h6 hinv p1 p2 p3 p4
    generalize pzF tx len od = z at h5 h6 hinv p1 p2 p3 p4 hoN
    generalize rdR p.2.2.1 p.2.2.2.1 p.2.2.2.2.1 z.2.2.2 0 (nI 0, a, c, Tk, V) = f1 at h5 hinv p1 p2 p3 p4
    generalize rdR p.2.2.1 p.2.2.2.1 p.2.2.2.2.1 z.2.2.2 0 (nI 0, a, c, Tk, ((V.1, V.2.1, r1, d1, it) : qVs)) = f2 at h6 p1 p2 p3
    rw [kp_if (oN := z.2.2.2) (by omega), show (if f1.1 < 0 then (-3 : Int32) else nI z.2.2.2) = ansR z.2.2.2 f1 from rfl, show (if f1.1 < 0 then a else f1.2.1) = posR a f1 from rfl] at h5
    have ea : ansR z.2.2.2 f2 = ansR z.2.2.2 f1 := by unfold ansR; rw [p1]
    have ep : posR a f2 = posR a f1 := by unfold posR; rw [p1, p2]
    have hPG : PG (posR a f1) := by
      unfold posR
      split
      · exact hg
      · exact hinv.1
    have j2 := ring_kp (bf := bf) i2 hg (ansR z.2.2.2 f1)
    obtain ⟨w2, tn2, h6⟩ := h6 (posR a f1, a, f1.2.2.1, d) (kpF (R, nx, sz) a (ansR z.2.2.2 f1)) (Tm, f1.2.2.2.1, ta, mc) (f1.2.2.2.2.1, -4, f1.2.2.2.2.2.2.1, f1.2.2.2.2.2.2.2.1, f1.2.2.2.2.2.2.2.2) p.2.1 p.2.2
    rw [ea, ep] at h6
    have j6 : G6 (f1.2.2.2.2.1, -4, f1.2.2.2.2.2.2.1, f1.2.2.2.2.2.2.2.1, f1.2.2.2.2.2.2.2.2) (f2.2.2.2.2.2.2.1, f2.2.2.2.2.2.2.2.1, f2.2.2.2.2.2.2.2.2, w2.1) := ⟨rfl, p3.1, p3.2.1, p3.2.2⟩
    have j7 : G7 (f1.2.2.2.2.1, -4, f1.2.2.2.2.2.2.1, f1.2.2.2.2.2.2.2.1, f1.2.2.2.2.2.2.2.2) isv sv d := ⟨p4.trans i7.1, i7.2⟩
    generalize ansR z.2.2.2 f1 = an at h5 h6 j2
    generalize posR a f1 = ps at h5 h6 hPG
    exact case_mk h5 rfl h6 (Inv.of ⟨hPG, ha, hinv.2, i1.2.2.2⟩ j2 i3 i4 ⟨Nat.zero_le _, i5.2⟩ j6 j7)
