set_option maxHeartbeats 4000000 in
set_option maxRecDepth 100000 in
theorem k_start {s : State} {b : Nat} (hts : ∀ w ∈ lw_tbl, w.before #[Value.ref b] s = true) : ∃ (D : va_G) (cy : Nat → ClassId), va_K D vwCl [(cy 0, .int), (cy 1, .char), (cy 2, .object "MateKeys$Position")] s := by
  obtain ⟨c0, i0, k0⟩ := u_known (ws := lw_tbl) (C := RX0) (T := TX0) (N := 3) (n := 3) hts (fun w hw => (List.mem_filter.mp (qk0.2.1 w hw)).1) (hts (.instantiable RX0 3) (by decide +kernel))
  obtain ⟨c1, i1, k1⟩ := u_known (ws := lw_tbl) (C := RX1) (T := TX1) (N := 2) (n := 2) hts (fun w hw => (List.mem_filter.mp (qk1.2.1 w hw)).1) (hts (.instantiable RX1 2) (by decide +kernel))
  obtain ⟨c2, i2, k2⟩ := u_known (ws := lw_tbl) (C := RX2) (T := TX2) (N := 1) (n := 1) hts (fun w hw => (List.mem_filter.mp (qk2.2.1 w hw)).1) (hts (.instantiable RX2 1) (by decide +kernel))
  obtain ⟨c3, i3, k3⟩ := u_known (ws := lw_tbl) (C := RX3) (T := TX3) (N := 5) (n := 5) hts (fun w hw => (List.mem_filter.mp (qk3.2.1 w hw)).1) (hts (.instantiable RX3 5) (by decide +kernel))
  obtain ⟨c4, i4, k4⟩ := u_known (ws := lw_tbl) (C := RX4) (T := TX4) (N := 10) (n := 10) hts (fun w hw => (List.mem_filter.mp (qk4.2.1 w hw)).1) (hts (.instantiable RX4 10) (by decide +kernel))
  obtain ⟨c5, i5, k5⟩ := u_known (ws := lw_tbl) (C := RX5) (T := TX5) (N := 16) (n := 16) hts (fun w hw => (List.mem_filter.mp (qk5.2.1 w hw)).1) (hts (.instantiable RX5 16) (by decide +kernel))
  obtain ⟨c6, i6, k6⟩ := u_known (ws := lw_tbl) (C := RX6) (T := TX6) (N := 22) (n := 22) hts (fun w hw => (List.mem_filter.mp (qk6.2.1 w hw)).1) (hts (.instantiable RX6 22) (by decide +kernel))
  obtain ⟨dC, dI, hKc⟩ : ∃ (dC : Nat → ClassId) (dI : Nat → Nat → Nat), ∀ (k : Nat) (q : vw_C), vwCl[k]? = some q → u_Kn s q.1 q.2.1 q.2.2 (dC k) (dI k) := by
    refine ⟨fun k => if k = 0 then c0 else if k = 1 then c1 else if k = 2 then c2 else if k = 3 then c3 else if k = 4 then c4 else if k = 5 then c5 else c6, fun k => if k = 0 then i0 else if k = 1 then i1 else if k = 2 then i2 else if k = 3 then i3 else if k = 4 then i4 else if k = 5 then i5 else i6, ?_⟩
    intro k q hq
    match k, hq with
    | 0, hq => cases hq; exact k0
    | 1, hq => cases hq; exact k1
    | 2, hq => cases hq; exact k2
    | 3, hq => cases hq; exact k3
    | 4, hq => cases hq; exact k4
    | 5, hq => cases hq; exact k5
    | 6, hq => cases hq; exact k6
    | k + 7, hq => cases hq
  obtain ⟨cI, kI, pI, f1, f2, f3⟩ := Cond.arrayClass_spec (args := #[Value.ref b]) (first := s) (o := none) (s := s) (idx := []) (hts (.arrayClass .int) (by decide +kernel))
  obtain ⟨cC, kC, pC, g1, g2, g3⟩ := Cond.arrayClass_spec (args := #[Value.ref b]) (first := s) (o := none) (s := s) (idx := []) (hts (.arrayClass .char) (by decide +kernel))
  obtain ⟨pO, cO, kO, h1, h2, h3, h4, h5⟩ := Cond.arrayOver_spec (args := #[Value.ref b]) (first := s) (o := none) (s := s) (idx := []) (hts (.arrayOver (.object "MateKeys$Position")) (by decide +kernel))
  refine ⟨(dC, dI), fun k => if k = 0 then cI else if k = 1 then cC else cO, hKc, ?_⟩
  intro k q hq
  match k, hq with
  | 0, hq => cases hq; exact ⟨fun n z => ⟨(fun k h => by cases h), kI, f2, pI, f3⟩, f1⟩
  | 1, hq => cases hq; exact ⟨fun n z => ⟨(fun k h => by cases h), kC, g2, pC, g3⟩, g1⟩
  | 2, hq => cases hq; exact ⟨fun n z => ⟨(fun k h => by cases h), kO, h3, pO, h4⟩, kO, pO, h3, h4, h1, h5⟩
  | k + 3, hq => cases hq
set_option maxHeartbeats 4000000 in
set_option maxRecDepth 100000 in
/-- the law, from its entry -/
theorem whole_start {p : Program} {e : Env} {s : State} {m : MethodId} {below : List Frame} {meth : Method} {c : Code} (l : Launch) (hflags : l.flags = flags0) {b L : Nat} {xs : Nat → Int32} (hL : L ≤ 1536) (C0 : lw_At p s m meth c b L xs) : W p l e room_1 s m #[Value.ref b] below meth c s.heap [] 0 0 (lw_Z below #[Value.ref b] s) (entryFrame m ([Value.ref b] : List Value).toArray 4) := by
  obtain ⟨hx, hb, hr, hml, hown, hts, hX, hbl, hlocks, hgv⟩ := id C0
  obtain ⟨D, cy, hK⟩ := k_start hts
  obtain ⟨tC, tR, fm, kK, kV, hY⟩ := y_start hts hgv
  have hS : va_S (fun q : Nat => s.heap.size ≤ q) s.heap s.heap [] := va_S.rf
  have hP : va_P D vwCl (q_w (q_ad tC tR fm b kK kV) cy []) s.heap := fun k q h => by cases h
  have hD : va_D (fun q : Nat => s.heap.size ≤ q) (q_w (q_ad tC tR fm b kK kV) cy []) := ⟨(fun i j p q h => by cases h), (fun k q h => by cases h)⟩
  have hl := lv_entry ([.ref b]) (n := 4) (Nat.le_of_ble_eq_true rfl)
  rw [lg_entry_eq]
  have e3 : q_ad tC tR fm b kK kV 3000 = b := rfl
  have C : qC (p, l, e, s, m, #[Value.ref b], below, meth, c, q_ad tC tR fm b kK kV, cy, D, (fun q : Nat => s.heap.size ≤ q), 0, 0, 0, lw_Z below #[Value.ref b] s) ML_law :=
    ⟨hx, hb, hml, hown, fun w hw => hts w (List.mem_filter.mp hw).1, fun q h => h, ⟨hK, fun w hw => qN_of (List.mem_filter.mp hw).2 (hts w (List.mem_filter.mp hw).1), hY⟩, Nat.zero_le _, Nat.zero_le _⟩
  have G : Grown (p, l, e, s, m, #[Value.ref b], below, meth, c, q_ad tC tR fm b kK kV, cy, D, (fun q : Nat => s.heap.size ≤ q), 0, 0, 0, lw_Z below #[Value.ref b] s) (p, l, e, s, m, #[Value.ref b], below, meth, c, q_ad tC tR fm b kK kV, cy, D, (fun q : Nat => s.heap.size ≤ q), 0, 0, 0, lw_Z below #[Value.ref b] s) 0 0 :=
    ⟨p, l, e, s, m, _, below, meth, c, _, _, cy, D, _, 0, _, rfl, rfl, Ag2.rf _ 0⟩
  have AO : qAO (p, l, e, s, m, #[Value.ref b], below, meth, c, q_ad tC tR fm b kK kV, cy, D, (fun q : Nat => s.heap.size ≤ q), 0, 0, 0, lw_Z below #[Value.ref b] s) := va_AO.of (hts (.arrayOver (.object "MateKeys$Position")) (by decide +kernel))
  have K := law_start C G AO (L := L) (xs := xs) (fun X1 G1 => ?_) hL (fun X1 G1 h loc => ?_)
  · exact K s.heap [] _ rfl hP hD hS hl
  · obtain ⟨p', l', e', s', m', args', below', meth', c', ad', ad2, cy', D', A', len', Q', h0, rfl, hag⟩ := G1
    cases h0
    have ea : ad2 3000 = b := (hag 3000 (Or.inr (by decide))).trans e3
    show va_X (ad2 3000) L xs s s.heap ∧ ad2 3000 < s.heap.size ∧ ¬ (s.heap.size ≤ ad2 3000)
    rw [ea]
    exact ⟨hX, hbl, Nat.not_le.mpr hbl⟩
  · obtain ⟨p', l', e', s', m', args', below', meth', c', ad', ad2, cy', D', A', len', Q', h0, rfl, hag⟩ := G1
    cases h0
    intro H locs ls hlen hP hD hS hl
    refine va_forget (fun q hq => hS.2.2 q hq) ?_
    refine W.widen (k := 600000) (n := 7302250) (by decide) (by decide) ?_
    exact lw_ret (Drawn.sameBut.refl s.drawn lw_cs) hx hb hr hlocks dL_law_859
