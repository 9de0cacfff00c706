/-! the machine over a heap that grows: constructors -/
def WfV (n : Nat) (v : Value) : Prop := ∀ r, v = .ref r → r < n ∨ 1000 ≤ r
def WfE (n : Nat) (e : qE) : Prop := match e with
  | .inr (_, fs) => ∀ v ∈ fs, WfV n v
  | .inl (_, _, .inr (.inr (.inr (.inr f)))) => ∀ j r, f j = some r → r < n ∨ 1000 ≤ r
  | _ => True
def Wf (h : qH) : Prop := ∀ (k : Nat) (e : qE), h[k]? = some e → WfE h.length e
def Ag2 (ad ad2 : Nat → Nat) (n : Nat) : Prop := ∀ k, k < n ∨ 1000 ≤ k → ad2 k = ad k
theorem Ag2.rf (ad : Nat → Nat) (n : Nat) : Ag2 ad ad n := fun _ _ => rfl
theorem Ag2.tr {a b c : Nat → Nat} {n m : Nat} (h1 : Ag2 a b n) (h2 : Ag2 b c m) (hm : n ≤ m) : Ag2 a c n := fun k hk => (h2 k (hk.imp (fun z => Nat.lt_of_lt_of_le z hm) id)).trans (h1 k hk)
theorem q_v_ag {ad ad2 : Nat → Nat} {n : Nat} (h : Ag2 ad ad2 n) {v : Value} (w : WfV n v) : q_v ad2 v = q_v ad v := by
  cases v with
  | ref r => show Value.ref (ad2 r) = Value.ref (ad r); rw [h r (w r rfl)]
  | _ => rfl
theorem q_e_ag {ad ad2 : Nat → Nat} {cy : Nat → ClassId} {n : Nat} (h : Ag2 ad ad2 n) {e : qE} (w : WfE n e) : q_e ad2 cy e = q_e ad cy e := by
  rcases e with ⟨c, m, x⟩ | ⟨c, fs⟩
  · rcases x with f | f | f | f | f
    · rfl
    · rfl
    · rfl
    · rfl
    · have e1 : (fun j => (f j).map ad2) = (fun j => (f j).map ad) := by
        funext j
        cases e : f j with
        | none => rfl
        | some r => show some (ad2 r) = some (ad r); rw [h r (w j r e)]
      show Sum.inl (cy c, m, Sum.inr (Sum.inr (Sum.inr (Sum.inr (fun j => (f j).map ad2))))) = _
      rw [e1]
      rfl
  · show Sum.inr (c, fs.map (q_v ad2)) = Sum.inr (c, fs.map (q_v ad))
    rw [List.map_congr_left (fun v hv => q_v_ag h (w v hv))]
theorem q_w_ag {ad ad2 : Nat → Nat} {cy : Nat → ClassId} {h : qH} (ha : Ag2 ad ad2 h.length) (w : Wf h) : q_w ad2 cy h = q_w ad cy h := by
  apply List.ext_getElem?
  intro i
  simp only [q_w, List.getElem?_mapIdx]
  cases e : h[i]? with
  | none => rfl
  | some x =>
    have hi : i < h.length := (List.getElem?_eq_some_iff.mp e).1
    show some (ad2 i, q_e ad2 cy x) = some (ad i, q_e ad cy x)
    rw [ha i (Or.inl hi), q_e_ag ha (w i x e)]
theorem q_w_app (ad : Nat → Nat) (cy : Nat → ClassId) (h : qH) (c : qE) : q_w ad cy (h ++ [c]) = q_w ad cy h ++ [(ad h.length, q_e ad cy c)] := by
  simp [q_w, List.mapIdx_append]
theorem q_loc_ag {ad ad2 : Nat → Nat} {n : Nat} (h : Ag2 ad ad2 n) {loc : List (Nat × Value)} (w : ∀ q ∈ loc, WfV n q.2) : loc.map (fun q => (q.1, q_v ad2 q.2)) = loc.map (fun q => (q.1, q_v ad q.2)) := List.map_congr_left fun q hq => by rw [q_v_ag h (w q hq)]
theorem q_st_ag {ad ad2 : Nat → Nat} {n : Nat} (h : Ag2 ad ad2 n) {st : List Value} (w : ∀ v ∈ st, WfV n v) : st.map (q_v ad2) = st.map (q_v ad) := List.map_congr_left fun v hv => q_v_ag h (w v hv)
theorem q_Y_ag {ad ad2 : Nat → Nat} {A : Nat → Prop} {U : State} {H : Heap} (h : ∀ k, 1000 ≤ k → ad2 k = ad k) (y : q_Y ad A U H) : q_Y ad2 A U H := by
  have e1 : (fun i => ad2 (2000 + i)) = fun i => ad (2000 + i) := funext fun i => h _ (by omega)
  have e2 : (fun i => ad2 (2010 + i)) = fun i => ad (2010 + i) := funext fun i => h _ (by omega)
  unfold q_Y at y ⊢
  rw [h 1000 (by decide), h 1001 (by decide), h 2000 (by decide), h 2001 (by decide), h 2020 (by decide), e1, e2]
  exact y
theorem q_G_ag {ad ad2 : Nat → Nat} {cy : Nat → ClassId} {D : va_G} {A : Nat → Prop} {U : State} {H : Heap} (h : ∀ k, 1000 ≤ k → ad2 k = ad k) (y : q_G ad cy D A U H) : q_G ad2 cy D A U H := ⟨y.1, y.2.1, q_Y_ag h y.2.2⟩
/-- a walk that began at X0 has made nc cells of ns slots -/
def Grown (X0 X : qX) (nc ns : Nat) : Prop := ∃ p l e s m args below meth c ad ad2 cy D A len Q, X0 = (p, l, e, s, m, args, below, meth, c, ad, cy, D, A, 0, 0, len, Q) ∧ X = (p, l, e, s, m, args, below, meth, c, ad2, cy, D, A, nc, ns, len + nc, Q) ∧ Ag2 ad ad2 len
def qInit (X : qX) : Prop := match X with
  | (_, _, _, _, _, _, _, meth, _) => meth.name = "<init>"
def qAO (X : qX) : Prop := match X with
  | (_, _, _, s, _) => va_AO "MateKeys$Position" s
def upA (ad : Nat → Nat) (k q : Nat) : Nat → Nat := fun j => if j = k then q else ad j
theorem upA_ag {ad : Nat → Nat} {k q : Nat} (hk : k < 1000) : Ag2 ad (upA ad k q) k := fun j hj => by unfold upA; rw [if_neg (by omega)]
theorem upA_at (ad : Nat → Nat) (k q : Nat) : upA ad k q k = q := by unfold upA; rw [if_pos rfl]
section GROW
variable {X0 X : qX} {M : qM} {nc ns pc : Nat} {loc : List (Nat × Value)} {st : List Value} {h : qH}
theorem grow_one {p : Program} {l : Launch} {e : Env} {s : State} {m : MethodId} {args : Array Value} {below : List Frame} {meth : Method} {c : Code} {ad ad2 : Nat → Nat} {cy : Nat → ClassId} {D : va_G} {A : Nat → Prop} {len : Nat} {Q : State → Prop} {N : Nat} {cell : qE} {k : Nat}
    (C : qC (p, l, e, s, m, args, below, meth, c, ad2, cy, D, A, nc, ns, len + nc, Q) M) (hag : Ag2 ad ad2 len) (hk : h.length = k) (hk1 : k < 1000) (hwf : Wf h) (hloc : ∀ q ∈ loc, WfV k q.2) (hst : ∀ v ∈ st, WfV k v) (hf0 : ∀ f, q_e f cy cell = q_e ad2 cy cell) (hc1 : nc + 1 ≤ M.2.2.2.2.cells) (hs1 : ns + N ≤ M.2.2.2.2.slots) {pc2 : Nat}
    (kk : ∀ X1, qC X1 M → Grown (p, l, e, s, m, args, below, meth, c, ad, cy, D, A, 0, 0, len, Q) X1 (nc + 1) (ns + N) → Ex X1 M pc2 loc (.ref k :: st) (h ++ [cell]))
    (hlen : h.length = len + nc) {H1 : Heap} {locs : List Loc} {ls : Array Slot} {q : Nat} (hP1 : va_P D vwCl (q_w ad2 cy h ++ [(q, q_e ad2 cy cell)]) H1) (hD1 : va_D A (q_w ad2 cy h ++ [(q, q_e ad2 cy cell)])) (hS1 : va_S A s.heap H1 locs) (hl : lv_has ls M.2.2.1 (loc.map (fun q => (q.1, q_v ad2 q.2)))) :
    W p l e M.2.2.2.2 s m args below meth c H1 locs (nc + 1) (ns + N) Q (F0 m pc2 ls (.ref q :: st.map (q_v ad2))) := by
  obtain ⟨hx, hb, hml, hown, hts, hA, hG, hce, hso⟩ := C
  have a2 : Ag2 ad2 (upA ad2 k q) k := upA_ag hk1
  have e1 : q_w (upA ad2 k q) cy (h ++ [cell]) = q_w ad2 cy h ++ [(q, q_e ad2 cy cell)] := by
    rw [q_w_app, hk, upA_at, hf0, q_w_ag (by rw [hk]; exact a2) hwf]
  have hG2 : q_G (upA ad2 k q) cy D A s s.heap := q_G_ag (fun j hj => a2 j (Or.inr hj)) hG
  have K := kk (p, l, e, s, m, args, below, meth, c, upA ad2 k q, cy, D, A, nc + 1, ns + N, len + (nc + 1), Q) ⟨hx, hb, hml, hown, hts, hA, hG2, hc1, hs1⟩
    ⟨p, l, e, s, m, args, below, meth, c, ad, upA ad2 k q, cy, D, A, len, Q, rfl, rfl, hag.tr a2 (by omega)⟩ H1 locs ls (by rw [List.length_append, hlen]; rfl) (by rw [e1]; exact hP1) (by rw [e1]; exact hD1) hS1 (by rw [q_loc_ag a2 hloc]; exact hl)
  rw [List.map_cons, q_st_ag a2 hst] at K
  have e2 : q_v (upA ad2 k q) (.ref k) = .ref q := by show Value.ref (upA ad2 k q k) = _; rw [upA_at]
  rw [e2] at K
  exact K
theorem x_new (C : qC X M) (G : Grown X0 X nc ns) {k ci N : Nat} {fs : List Value} {R : String} {T : u_T} {ty : Nat → FieldType} {index : Nat} (hk : h.length = k) (hk1 : k < 1000) (hwf : Wf h) (hloc : ∀ q ∈ loc, WfV k q.2) (hst : ∀ v ∈ st, WfV k v) (qk : qCls ci R T N ty)
    (hcl : Cond.classLink M.1.cls index R ∈ qT) (hinst : Cond.instantiable R N ∈ qT) (hini : Cond.initialized R ∈ qT) (hfs : ∀ j, j < N → defaultValue (ty j) = vp_V fs j) (hf0 : ∀ f, fs.map (q_v f) = fs) (hc1 : nc + 1 ≤ M.2.2.2.2.cells) (hs1 : ns + N ≤ M.2.2.2.2.slots) (hd : decode M.2.1 pc = .ok (.new index, 3))
    (kk : ∀ X1, qC X1 M → Grown X0 X1 (nc + 1) (ns + N) → Ex X1 M (pc + 3) loc (.ref k :: st) (h ++ [.inr (ci, fs)])) : Ex X M pc loc st h := by
  obtain ⟨p, l, e, s, m, args, below, meth, c, ad, ad2, cy, D, A, len, Q, rfl, rfl, hag⟩ := G
  have C0 := C
  obtain ⟨hx, hb, hml, hown, hts, hA, hG, hce, hso⟩ := C
  intro H locs ls hlen hP hD hS hl
  refine va_new hx hb hts qk.2.1 ty qk.2.2.1 hown (hts _ hcl) (hts _ hinst) (hts _ hini) hG.1 hP hD hS hA qk.1 hfs hc1 hs1 hd (fun q H1 hP1 hD1 hS1 => ?_)
  have e0 : (Sum.inr (ci, fs) : va_E) = q_e ad2 cy (.inr (ci, fs)) := by show _ = Sum.inr (ci, fs.map (q_v ad2)); rw [hf0]
  rw [e0] at hP1 hD1
  exact grow_one C0 hag hk hk1 hwf hloc hst (fun f => by show Sum.inr (ci, fs.map (q_v f)) = Sum.inr (ci, fs.map (q_v ad2)); rw [hf0, hf0]) hc1 hs1 kk hlen hP1 hD1 hS1 hl
theorem x_newI (C : qC X M) (G : Grown X0 X nc ns) {k n : Nat} (hk : h.length = k) (hk1 : k < 1000) (hwf : Wf h) (hloc : ∀ q ∈ loc, WfV k q.2) (hst : ∀ v ∈ st, WfV k v)
    (hn : n < 100000) (hc1 : nc + 1 ≤ M.2.2.2.2.cells) (hs1 : ns + n ≤ M.2.2.2.2.slots) (hd : decode M.2.1 pc = .ok (.newarray .int, 2))
    (kk : ∀ X1, qC X1 M → Grown X0 X1 (nc + 1) (ns + n) → Ex X1 M (pc + 2) loc (.ref k :: st) (h ++ [qB0 n (fun _ => 0)])) : Ex X M pc loc (.int (nI n) :: st) h := by
  obtain ⟨p, l, e, s, m, args, below, meth, c, ad, ad2, cy, D, A, len, Q, rfl, rfl, hag⟩ := G
  have C0 := C
  obtain ⟨hx, hb, hml, hown, hts, hA, hG, hce, hso⟩ := C
  intro H locs ls hlen hP hD hS hl
  refine va_newa (atype := .int) hx hb (hts _ (qT_in 104 (by decide +kernel) rfl)) rfl hG.1 hP hD hS hA (a0 := (n, .inl (nb (fun _ => 0)))) (fun cA => rfl) (nI_pos (by omega)) (nI_clamp (by omega)) (by show n * 4 ≤ _; omega) hc1 hs1 hd (fun q cA H1 hK1 hP1 hD1 hS1 => ?_)
  have r1 : va_RA s cA .int := (hK1.2 3 _ rfl).2
  have r0 : va_RA s (cy 0) .int := (hG.1.2 0 _ rfl).2
  have ec : cA = cy 0 := Option.some.inj (r1.symm.trans r0)
  subst ec
  exact grow_one (cell := qB0 n (fun _ => 0)) C0 hag hk hk1 hwf hloc hst (fun f => rfl) hc1 hs1 kk hlen hP1 hD1 hS1 hl
theorem x_newC (C : qC X M) (G : Grown X0 X nc ns) {k n : Nat} (hk : h.length = k) (hk1 : k < 1000) (hwf : Wf h) (hloc : ∀ q ∈ loc, WfV k q.2) (hst : ∀ v ∈ st, WfV k v)
    (hn : n < 100000) (hc1 : nc + 1 ≤ M.2.2.2.2.cells) (hs1 : ns + n ≤ M.2.2.2.2.slots) (hd : decode M.2.1 pc = .ok (.newarray .char, 2))
    (kk : ∀ X1, qC X1 M → Grown X0 X1 (nc + 1) (ns + n) → Ex X1 M (pc + 2) loc (.ref k :: st) (h ++ [qB1 n (fun _ => 0)])) : Ex X M pc loc (.int (nI n) :: st) h := by
  obtain ⟨p, l, e, s, m, args, below, meth, c, ad, ad2, cy, D, A, len, Q, rfl, rfl, hag⟩ := G
  have C0 := C
  obtain ⟨hx, hb, hml, hown, hts, hA, hG, hce, hso⟩ := C
  intro H locs ls hlen hP hD hS hl
  refine va_newa (atype := .char) hx hb (hts _ (qT_in 829 (by decide +kernel) rfl)) rfl hG.1 hP hD hS hA (a0 := (n, .inl (nb (fun _ => 0)))) (fun cA => rfl) (nI_pos (by omega)) (nI_clamp (by omega)) (by show n * 2 ≤ _; omega) hc1 hs1 hd (fun q cA H1 hK1 hP1 hD1 hS1 => ?_)
  have r1 : va_RA s cA .char := (hK1.2 3 _ rfl).2
  have r0 : va_RA s (cy 1) .char := (hG.1.2 1 _ rfl).2
  have ec : cA = cy 1 := Option.some.inj (r1.symm.trans r0)
  subst ec
  exact grow_one (cell := qB1 n (fun _ => 0)) C0 hag hk hk1 hwf hloc hst (fun f => rfl) hc1 hs1 kk hlen hP1 hD1 hS1 hl
theorem x_newP (C : qC X M) (G : Grown X0 X nc ns) (AO : qAO X0) {k n index : Nat} (hk : h.length = k) (hk1 : k < 1000) (hwf : Wf h) (hloc : ∀ q ∈ loc, WfV k q.2) (hst : ∀ v ∈ st, WfV k v)
    (hcl : Cond.classLink M.1.cls index "MateKeys$Position" ∈ qT) (hn : n < 100000) (hc1 : nc + 1 ≤ M.2.2.2.2.cells) (hs1 : ns + n ≤ M.2.2.2.2.slots) (hd : decode M.2.1 pc = .ok (.anewarray index, 3))
    (kk : ∀ X1, qC X1 M → Grown X0 X1 (nc + 1) (ns + n) → Ex X1 M (pc + 3) loc (.ref k :: st) (h ++ [.inl (2, n, .inr (.inr (.inr (.inr (fun _ => none)))))])) : Ex X M pc loc (.int (nI n) :: st) h := by
  obtain ⟨p, l, e, s, m, args, below, meth, c, ad, ad2, cy, D, A, len, Q, rfl, rfl, hag⟩ := G
  have C0 := C
  obtain ⟨hx, hb, hml, hown, hts, hA, hG, hce, hso⟩ := C
  intro H locs ls hlen hP hD hS hl
  refine va_newq (C := "MateKeys$Position") hx hb hown (hts _ hcl) AO hG.1 hP hD hS hA (nI_pos (by omega)) (nI_clamp (by omega)) (by omega) hc1 hs1 hd (fun q cA H1 hK1 hP1 hD1 hS1 => ?_)
  obtain ⟨k1, c1, -, -, -, r1⟩ : va_RA s cA (.object "MateKeys$Position") := (hK1.2 3 _ rfl).2
  obtain ⟨k0, c0, -, -, -, r0⟩ : va_RA s (cy 2) (.object "MateKeys$Position") := (hG.1.2 2 _ rfl).2
  have ec : cA = cy 2 := Option.some.inj (r1.symm.trans r0)
  subst ec
  exact grow_one (cell := .inl (2, n, .inr (.inr (.inr (.inr (fun _ => none)))))) C0 hag hk hk1 hwf hloc hst (fun f => rfl) hc1 hs1 kk hlen hP1 hD1 hS1 hl

theorem x_putR (C : qC X M) (G : Grown X0 X nc ns) (I0 : qInit X0) {ci : Nat} {K : String} {T : u_T} {N : Nat} {ty : Nat → FieldType} (hK : qCls ci K T N ty) {idx b r : Nat} {fs : List Value} (k : Nat) (hk : k < N) (hlk : Cond.fieldLink M.1.cls idx (T k).1 (T k).2.1 (T k).2.2.1 ∈ qT) (hfin : (T k).2.2.2 = true) (hdecl : (T k).1 = M.1.cls) {ty0 : FieldType} (hpd : parseFieldDescriptor (T k).2.2.1 = some ty0) (hn : ∀ a : Nat, narrow ty0 (.ref a) = .ref a) (hfit : ∀ a : Nat, fits ty0 (.ref a) = true) (hd : decode M.2.1 pc = .ok (.putfield idx, 3)) (ho : h[b]? = some (.inr (ci, fs))) (hf : k < fs.length) (kk : Ex X M (pc + 3) loc st (h.set b (.inr (ci, fs.set k (.ref r))))) : Ex X M pc loc (.ref r :: .ref b :: st) h := by
  obtain ⟨p, l, e, s, m, args, below, meth, c, ad, ad2, cy, D, A, len, Q, rfl, rfl, hag⟩ := G
  obtain ⟨hx, hb, hml, hown, hts, hA, hG, hce, hso⟩ := C
  intro H locs ls hlen hP hD hS hl
  refine va_putF (D := D) (ci := ci) (v := .ref (ad2 r)) (ty := ty0) hx hb hts hK.2.1 ty hK.2.2.1 hK.2.2.2 hown hG.1 hP hD hS b (q_w_get ho) hK.1 k hk (hts _ hlk) (fun _ h9 => h9) hfin I0 hdecl hpd (hn _) (hfit _) (by rw [List.length_map]; exact hf) hd (fun H1 locs1 hP1 hD1 hS1 => ?_)
  have e : (ad2 b, Sum.inr (ci, (fs.map (q_v ad2)).set k (.ref (ad2 r)))) = (ad2 b, q_e ad2 cy (.inr (ci, fs.set k (.ref r)))) := by simp only [q_e, List.map_set]; rfl
  rw [e, q_w_set] at hP1 hD1
  exact kk H1 locs1 ls (by rw [List.length_set]; exact hlen) hP1 hD1 hS1 hl
theorem x_aastR (C : qC X M) {a n i v : Nat} {vs : List Value} {f : Nat → Option Nat} (hd : decode M.2.1 pc = .ok (.aastore, 1)) (ho : h[a]? = some (.inl (2, n, .inr (.inr (.inr (.inr f)))))) (hv : h[v]? = some (.inr (3, vs))) (hi : i < n) (hn : n < 2147483648) (kk : Ex X M (pc + 1) loc st (h.set a (.inl (2, n, .inr (.inr (.inr (.inr (va_up f i (some v)))))))) ) : Ex X M pc loc (.ref v :: .int (nI i) :: .ref a :: st) h := by
  obtain ⟨p, l, e, s, m, args, below, meth, c, ad, cy, D, A, cells, slots, len, Q⟩ := X
  obtain ⟨hx, hb, hml, hown, hts, hA, hG, hce, hso⟩ := C
  intro H locs ls hlen hP hD hS hl
  refine va_astq hx hb hG.1 hP hD hS a 2 v 3 (r := (RX3, TX3, 5)) (q_w_get ho) rfl (q_w_get hv) rfl (vp_in_nI hi hn) hd (fun H1 locs1 hP1 hD1 hS1 => ?_)
  rw [nI_clamp (by omega)] at hP1 hD1
  have e0 : va_up (fun j => (f j).map ad) i (some (ad v)) = fun j => (va_up f i (some v) j).map ad := by
    funext j
    by_cases z : j = i
    · subst z; rw [va_up_self, va_up_self]; rfl
    · rw [va_up_ne _ _ z, va_up_ne _ _ z]
  rw [e0] at hP1 hD1
  have e : (ad a, (Sum.inl (cy 2, n, Sum.inr (Sum.inr (Sum.inr (Sum.inr (fun j => (va_up f i (some v) j).map ad))))) : va_E)) = (ad a, q_e ad cy (.inl (2, n, .inr (.inr (.inr (.inr (va_up f i (some v)))))))) := rfl
  rw [e, q_w_set] at hP1 hD1
  exact kk H1 locs1 ls (by rw [List.length_set]; exact hlen) hP1 hD1 hS1 hl
theorem obIn : Cond.instanceMethod Lib.objectInit ∈ qT := qT_in 76 (by decide +kernel) rfl
theorem obCo : Cond.code Lib.objectInit ⟨#[0xb1]⟩ 1 none ∈ qT := qT_in 77 (by decide +kernel) rfl
theorem x_obj (C : qC X M) {b idx : Nat} (hlk : Cond.methodLink M.1.cls idx Lib.objectInit ∈ qT) (hR : 1 ≤ M.2.2.2.2.frames ∧ 8 + 12 ≤ M.2.2.2.2.locals) (hw : (st.map fun v => v.category).sum ≤ 8) (hd : decode M.2.1 pc = .ok (.invokespecial idx, 3)) (kk : Ex X M (pc + 3) loc st h) : Ex X M pc loc (.ref b :: st) h := by
  obtain ⟨p, l, e, s, m, args, below, meth, c, ad, cy, D, A, cells, slots, len, Q⟩ := X
  obtain ⟨hx, hb, hml, hown, hts, hA, hG, hce, hso⟩ := C
  intro H locs ls hlen hP hD hS hl
  have hr := q_room (ad := ad) hw (m := m) (pc := pc) (ls := ls) (st0 := List.map (q_v ad) (.ref b :: st))
  exact W.objInit (rest := st.map (q_v ad)) (a := ad b) hx hb hown (hts _ hlk) (hts _ obIn) (hts _ obCo) rfl (hl.1.trans hml.symm) rfl hd hR.1 (by omega) (kk H locs ls hlen hP hD hS hl)
end GROW
/-- a constructor's contract: it makes mc cells of ms slots -/
def q_QC (ad : Nat → Nat) (cy : Nat → ClassId) (D : va_G) (A1 : Nat → Prop) (h h2 : qH) : Array Value → State → Outcome → State → Prop := fun _ st oc t =>
  (oc = .returned none ∧ ∃ ad2, Ag2 ad ad2 h.length ∧ va_P D vwCl (q_w ad2 cy h2) t.heap ∧ va_D A1 (q_w ad2 cy h2)) ∧ va_F A1 st t
def q_BC (ad : Nat → Nat) (cy : Nat → ClassId) (D : va_G) (h : qH) (sz : Nat) (U : State) : Prop := q_B ad cy D h sz U ∧ va_AO "MateKeys$Position" U
def OkC (M : qM) (args : List Value) (h h2 : qH) (mc ms : Nat) : Prop :=
  ∀ (l : Launch) (ad : Nat → Nat) (cy : Nat → ClassId) (D : va_G) (sz : Nat), Met l M.1 (qws M) M.2.2.2.2 (va_Pc (args.map (q_v ad)) (q_BC ad cy D h sz)) (q_QC ad cy D (va_A (q_w ad cy h) sz) h h2) mc ms (va_A (q_w ad cy h) sz)
theorem okC_of {M : qM} {args : List Value} {h h2 : qH} {mc ms : Nat} (hy : plainName M.1.cls = true) (hi : M.1.name = "<init>") (hn : (lg_sl args).length ≤ M.2.2.1) (hret : M.2.2.2.1 = none)
    (body : ∀ X, qC X M → qInit X → qAO X → Grown X X 0 0 → (∀ X1, Grown X X1 mc ms → ∀ (pc : Nat) (loc : List (Nat × Value)), decode M.2.1 pc = .ok (.return_, 1) → Ex X1 M pc loc [] h2) → Ex X M 0 (lv_args 0 args) [] h) : OkC M args h h2 mc ms := by
  intro l ad cy D sz
  refine Met.ofW (cc := M.2.1) (maxL := M.2.2.1) (ret := M.2.2.2.1) hy rfl ?_
  intro p e s m args2 below meth c s₁ B hml hv
  obtain ⟨rfl, ⟨hsz, hP, hD0, hG⟩, hAO⟩ := hv
  have hx := B.exec
  have hb := B.bytes
  have hr := B.returns
  have hts := atoms_spec (ws := qws M) B.pre
  have hown : s.vm.findClass M.1.cls = some m.cls := findClass_of_methodNamed B.named
  have hnm : meth.name = "<init>" := (name_of_methodNamed B.named B.method).1.trans hi
  have hlocks := B.notSynchronized
  subst hsz
  have hD := hD0.self (sz := s.heap.size)
  have hS : va_S (va_A (q_w ad cy h) s.heap.size) s.heap s.heap [] := va_S.rf
  have hl := lv_entry (args.map (q_v ad)) (n := M.2.2.1) (by rw [q_sl_len]; exact hn)
  rw [q_args] at hl
  rw [lg_entry_eq]
  refine body (p, l, e, s, m, _, below, meth, c, ad, cy, D, va_A (q_w ad cy h) s.heap.size, 0, 0, h.length, _) ⟨hx, hb, hml, hown, fun w hw => hts w (List.mem_cons_of_mem _ hw), fun q hq => Or.inr hq, hG, Nat.zero_le _, Nat.zero_le _⟩ hnm hAO
    ⟨p, l, e, s, m, _, below, meth, c, ad, ad, cy, D, _, h.length, _, rfl, rfl, Ag2.rf ad _⟩ ?_ s.heap [] _ rfl hP hD hS hl
  intro X1 G1 pc loc hd
  obtain ⟨p', l', e', s', m', args', below', meth', c', ad', ad2, cy', D', A', len', Q', h0, rfl, hag⟩ := G1
  cases h0
  intro H locs ls hlen hP hD hS hl
  exact W.vret hx hb (hr.trans hret) (fun t ht hW => ⟨⟨rfl, ad2, hag, by rw [ht]; exact hP, hD⟩, hS.F ht⟩) hS.2.2 hd hlocks
section QCALLC
variable {p : Program} {l : Launch} {e : Env} {R : Room} {s : State} {m : MethodId} {args : Array Value} {below : List Frame} {meth : Method} {c : Code} {H : Heap} {locs : List Loc} {cells slots : Nat} {Q : State → Prop}
theorem q_callC {pc mc ms : Nat} {ls : Array Slot} {rest st0 : List Value} {a : Array Value} {A0 A1 : Nat → Prop} {ad : Nat → Nat} {cy : Nat → ClassId} {D : va_G} {h h2 : qH} (hr : va_Run p l e R s m args below meth c H locs cells slots mc ms (F0 m pc ls st0) rest (q_QC ad cy D A1 h h2 a) A1) (hS : va_S A0 s.heap H locs) (hA : ∀ q, A1 q → A0 q)
    (kk : ∀ (H1 : Heap) (locs1 : List Loc) (ad2 : Nat → Nat), Ag2 ad ad2 h.length → va_P D vwCl (q_w ad2 cy h2) H1 → va_D A1 (q_w ad2 cy h2) → va_S A0 s.heap H1 locs1 → W p l e R s m args below meth c H1 locs1 (cells + mc) (slots + ms) Q (F0 m (pc + 3) ls rest)) : W p l e R s m args below meth c H locs cells slots Q (F0 m pc ls st0) := by
  intro T hT X
  obtain ⟨v, st₀, t, T', L, h0, X', hL, e1, e2, ⟨⟨hv, ad2, hag, hb, hd⟩, hz, hk⟩, st⟩ := hr T hT X
  cases hv
  rw [h0] at hz hk
  obtain ⟨t2, a1, b1⟩ := kk T'.heap (locs ++ L) ad2 hag (by rw [e1]; exact hb) hd
    ⟨Nat.le_trans hS.1 (by rw [e1]; exact hz), fun q h1 h2 => by rw [e1, hk q (Nat.lt_of_lt_of_le h1 hS.1) (fun z => h2 (hA q z))]; exact hS.2.1 q h1 h2, fun q hq => by
      rcases List.mem_append.mp hq with h | h
      · exact hS.2.2 q h
      · exact hA _ (hL q h)⟩ T' rfl X'
  exact ⟨t2, st t2 a1, b1⟩
end QCALLC
def qInC (M : qM) (mc ms : Nat) : Prop := Cond.code M.1 M.2.1 M.2.2.1 M.2.2.2.1 ∈ qT ∧ Cond.initialized M.1.cls ∈ qT ∧ (M.1.cls ≠ "java/lang/invoke/MethodHandle" ∧ M.1.cls ≠ "java/lang/invoke/VarHandle") ∧ M.2.2.2.2.cells = mc ∧ M.2.2.2.2.slots = ms ∧ M.1.name = "<init>" ∧ Cond.instanceMethod M.1 ∈ qT ∧ M.2.2.2.1 = none
theorem q_payC {s : State} {args : Array Value} (hts : ∀ w ∈ qT, w.before args s = true) {N : qM} (h1 : Cond.code N.1 N.2.1 N.2.2.1 N.2.2.2.1 ∈ qT) : ∀ w ∈ qws N, ∀ (a' : Array Value) (U : State), s.WarmedH U.vm → w.before a' U = true := by
  intro w hw a' U hW
  rcases List.mem_cons.mp hw with rfl | hw
  · exact word_at hW (qT_good h1) (hts _ h1)
  · exact word_at hW (qT_good hw) (hts _ hw)
section GROW2
variable {X0 X : qX} {M : qM} {nc ns pc : Nat} {loc : List (Nat × Value)} {st : List Value} {h : qH}
theorem call_one {p : Program} {l : Launch} {e : Env} {s : State} {m : MethodId} {args : Array Value} {below : List Frame} {meth : Method} {c : Code} {ad ad2 : Nat → Nat} {cy : Nat → ClassId} {D : va_G} {A : Nat → Prop} {len : Nat} {Q : State → Prop} {mc ms : Nat} {h2 : qH} {k : Nat}
    (C : qC (p, l, e, s, m, args, below, meth, c, ad2, cy, D, A, nc, ns, len + nc, Q) M) (hag : Ag2 ad ad2 len) (hk : h.length = k) (hloc : ∀ q ∈ loc, WfV k q.2) (hst : ∀ v ∈ st, WfV k v) (hl2 : h2.length = k + mc) (hc1 : nc + mc ≤ M.2.2.2.2.cells) (hs1 : ns + ms ≤ M.2.2.2.2.slots) {pc2 : Nat}
    (kk : ∀ X1, qC X1 M → Grown (p, l, e, s, m, args, below, meth, c, ad, cy, D, A, 0, 0, len, Q) X1 (nc + mc) (ns + ms) → Ex X1 M pc2 loc st h2)
    (hlen : h.length = len + nc) {H1 : Heap} {locs1 : List Loc} {ls : Array Slot} {ad3 : Nat → Nat} {A1 : Nat → Prop} (hA1 : ∀ q, A1 q → A q) (ha3 : Ag2 ad2 ad3 h.length) (hP1 : va_P D vwCl (q_w ad3 cy h2) H1) (hD1 : va_D A1 (q_w ad3 cy h2)) (hS1 : va_S A s.heap H1 locs1) (hl : lv_has ls M.2.2.1 (loc.map (fun q => (q.1, q_v ad2 q.2)))) :
    W p l e M.2.2.2.2 s m args below meth c H1 locs1 (nc + mc) (ns + ms) Q (F0 m pc2 ls (st.map (q_v ad2))) := by
  obtain ⟨hx, hb, hml, hown, hts, hA, hG, hce, hso⟩ := C
  rw [hk] at ha3
  have hG2 : q_G ad3 cy D A s s.heap := q_G_ag (fun j hj => ha3 j (Or.inr hj)) hG
  have K := kk (p, l, e, s, m, args, below, meth, c, ad3, cy, D, A, nc + mc, ns + ms, len + (nc + mc), Q) ⟨hx, hb, hml, hown, hts, hA, hG2, hc1, hs1⟩
    ⟨p, l, e, s, m, args, below, meth, c, ad, ad3, cy, D, A, len, Q, rfl, rfl, hag.tr ha3 (by omega)⟩ H1 locs1 ls (by rw [hl2]; omega) hP1 (hD1.weaken (fun _ _ _ z => hA1 _ z)) hS1 (by rw [q_loc_ag ha3 hloc]; exact hl)
  rw [q_st_ag ha3 hst] at K
  exact K
theorem x_callC (C : qC X M) (G : Grown X0 X nc ns) (AO : qAO X0) {k b idx mc ms : Nat} {N : qM} {h2 : qH} (hok : OkC N [.ref b] h h2 mc ms) (hk : h.length = k) (hl2 : h2.length = k + mc) (hloc : ∀ q ∈ loc, WfV k q.2) (hst : ∀ v ∈ st, WfV k v) (hlk : Cond.methodLink M.1.cls idx N.1 ∈ qT) (hI : qInC N mc ms) (har : qAr N 0) (hrm : qRm M N) (hw : (st.map fun v => v.category).sum ≤ 8) (hc1 : nc + mc ≤ M.2.2.2.2.cells) (hs1 : ns + ms ≤ M.2.2.2.2.slots) (hd : decode M.2.1 pc = .ok (.invokespecial idx, 3))
    (kk : ∀ X1, qC X1 M → Grown X0 X1 (nc + mc) (ns + ms) → Ex X1 M (pc + 3) loc st h2) : Ex X M pc loc (.ref b :: st) h := by
  obtain ⟨p, l, e, s, m, args, below, meth, c, ad, ad2, cy, D, A, len, Q, rfl, rfl, hag⟩ := G
  have C0 := C
  obtain ⟨hx, hb, hml, hown, hts, hA, hG, hce, hso⟩ := C
  intro H locs ls hlen hP hD hS hl
  obtain ⟨hF, hB⟩ := q_pre hP hD hS hA hG
  obtain ⟨i1, i2, i3, i4, i5, i6, i7, i8⟩ := hI
  have hcw : CallB M.2.2.2.2 s args M.1.cls idx N.1 N.2.1 N.2.2.1 none (qws N) N.2.2.2.2 mc ms 0 ∧ N.1.name = "<init>" ∧ (Cond.instanceMethod N.1).before args s = true := ⟨⟨i4, i5, hrm.1, hrm.2, q_payC hts i1, by rw [← i8]; exact List.mem_cons_self, by rw [← i8]; exact hts _ i1, hts _ i2, i3, q_ar har, hts _ hlk⟩, i6, hts _ i7⟩
  refine q_callC (va_runI (As := []) (rest := st.map (q_v ad2)) (b := ad2 b) ⟨hx, hb, hml, hown, hts⟩ (hok l ad2 cy D H.size) hcw ⟨fun a U g mk q => ⟨q.1, q.2.1.calling, q.2.2⟩, fun U hU hW => ⟨rfl, hB U hU hW, va_AO.moved hW.alike AO⟩⟩ rfl rfl hl.1 rfl (q_room hw) hd ⟨hc1, hs1⟩) hS hF (fun H1 locs1 ad3 ha3 hP1 hD1 hS1 => ?_)
  exact call_one C0 hag hk hloc hst hl2 hc1 hs1 kk hlen hF ha3 hP1 hD1 hS1 hl
theorem x_callCN (C : qC X M) (G : Grown X0 X nc ns) (AO : qAO X0) {k b idx mc ms : Nat} {N : qM} {h2 : qH} {host : String} (hok : OkC N [.ref b] h h2 mc ms) (hk : h.length = k) (hl2 : h2.length = k + mc) (hloc : ∀ q ∈ loc, WfV k q.2) (hst : ∀ v ∈ st, WfV k v) (hlk : Cond.methodLinkNest M.1.cls idx N.1 host ∈ qN) (hI : qInC N mc ms) (har : qAr N 0) (hrm : qRm M N) (hw : (st.map fun v => v.category).sum ≤ 8) (hc1 : nc + mc ≤ M.2.2.2.2.cells) (hs1 : ns + ms ≤ M.2.2.2.2.slots) (hd : decode M.2.1 pc = .ok (.invokespecial idx, 3))
    (kk : ∀ X1, qC X1 M → Grown X0 X1 (nc + mc) (ns + ms) → Ex X1 M (pc + 3) loc st h2) : Ex X M pc loc (.ref b :: st) h := by
  obtain ⟨p, l, e, s, m, args, below, meth, c, ad, ad2, cy, D, A, len, Q, rfl, rfl, hag⟩ := G
  have C0 := C
  obtain ⟨hx, hb, hml, hown, hts, hA, hG, hce, hso⟩ := C
  intro H locs ls hlen hP hD hS hl
  obtain ⟨hF, hB⟩ := q_pre hP hD hS hA hG
  obtain ⟨i1, i2, i3, i4, i5, i6, i7, i8⟩ := hI
  have hcw : va_CN M.2.2.2.2 s args M.1.cls idx N.1 host N.2.1 N.2.2.1 none (qws N) N.2.2.2.2 mc ms 0 ∧ N.1.name = "<init>" ∧ (Cond.instanceMethod N.1).before args s = true := ⟨⟨⟨i4, i5, hrm.1, hrm.2, q_payC hts i1, by rw [← i8]; exact List.mem_cons_self⟩, by rw [← i8]; exact hts _ i1, hts _ i2, i3, q_ar har, va_Nw.use rfl (hG.2.1 _ hlk)⟩, i6, hts _ i7⟩
  refine q_callC (va_runIN (As := []) (rest := st.map (q_v ad2)) (b := ad2 b) ⟨hx, hb, hml, hown, hts⟩ (hok l ad2 cy D H.size) hcw ⟨fun a U g mk q => ⟨q.1, q.2.1.calling, q.2.2⟩, fun U hU hW => ⟨rfl, hB U hU hW, va_AO.moved hW.alike AO⟩⟩ rfl rfl hl.1 rfl (q_room hw) hd ⟨hc1, hs1⟩) hS hF (fun H1 locs1 ad3 ha3 hP1 hD1 hS1 => ?_)
  exact call_one C0 hag hk hloc hst hl2 hc1 hs1 kk hlen hF ha3 hP1 hD1 hS1 hl
end GROW2
