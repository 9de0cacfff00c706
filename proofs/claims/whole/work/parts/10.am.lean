/-! the abstract machine: a heap is a list of cells by place; references are places; rows for Ex, contracts Ok -/
abbrev qE : Type := (Nat × vp_A) ⊕ (Nat × List Value)
abbrev qH : Type := List qE
def q_v (ad : Nat → Nat) : Value → Value
  | .ref k => .ref (ad k)
  | v => v
theorem q_v_cat (ad : Nat → Nat) (v : Value) : (q_v ad v).category = v.category := by cases v <;> rfl
def q_c (ad : Nat → Nat) : vp_A → vp_A
  | (n, .inr (.inr (.inr (.inr f)))) => (n, .inr (.inr (.inr (.inr (fun j => (f j).map ad)))))
  | a => a
def q_e (ad : Nat → Nat) (cy : Nat → ClassId) : qE → va_E
  | .inl a => .inl (cy a.1, q_c ad a.2)
  | .inr o => .inr (o.1, o.2.map (q_v ad))
def q_w (ad : Nat → Nat) (cy : Nat → ClassId) (h : qH) : va_W := h.mapIdx (fun k e => (ad k, q_e ad cy e))
theorem q_w_get {ad : Nat → Nat} {cy : Nat → ClassId} {h : qH} {k : Nat} {e : qE} (hk : h[k]? = some e) : (q_w ad cy h)[k]? = some (ad k, q_e ad cy e) := by
  simp [q_w, hk]
theorem q_w_at {ad : Nat → Nat} {cy : Nat → ClassId} {h : qH} {k : Nat} {q : Nat × va_E} (hk : (q_w ad cy h)[k]? = some q) : q.1 = ad k ∧ k < h.length := by
  simp only [q_w, List.getElem?_mapIdx, Option.map_eq_some_iff] at hk
  obtain ⟨e, h1, h2⟩ := hk
  exact ⟨by rw [← h2], (List.getElem?_eq_some_iff.mp h1).1⟩
theorem q_w_set {ad : Nat → Nat} {cy : Nat → ClassId} {h : qH} {k : Nat} {e : qE} : (q_w ad cy h).set k (ad k, q_e ad cy e) = q_w ad cy (h.set k e) := by
  apply List.ext_getElem?
  intro i
  simp only [q_w, List.getElem?_set, List.getElem?_mapIdx, List.length_mapIdx]
  by_cases hi : k = i
  · subst hi
    by_cases hl : k < h.length <;> simp [hl]
  · simp [hi]
theorem q_w_D {ad : Nat → Nat} {cy : Nat → ClassId} {h h' : qH} {A : Nat → Prop} (hD : va_D A (q_w ad cy h)) (hl : h'.length = h.length) : va_D A (q_w ad cy h') := by
  have key : ∀ (k : Nat) (q : Nat × va_E), (q_w ad cy h')[k]? = some q → ∃ q2 : Nat × va_E, (q_w ad cy h)[k]? = some q2 ∧ q2.1 = q.1 := by
    intro k q hk
    obtain ⟨h1, h2⟩ := q_w_at hk
    rw [hl] at h2
    exact ⟨_, q_w_get (List.getElem?_eq_getElem h2), h1.symm⟩
  refine ⟨fun i j p q hi hj hpq => ?_, fun k q hk => ?_⟩
  · obtain ⟨p2, a1, a2⟩ := key i p hi
    obtain ⟨q2, b1, b2⟩ := key j q hj
    exact hD.1 i j p2 q2 a1 b1 (by rw [a2, b2, hpq])
  · obtain ⟨q2, b1, b2⟩ := key k q hk
    rw [← b2]
    exact hD.2 k q2 b1
def q_sc (j : Nat) : Int32 := ([1, 0, -1, 0, 1, -1, -1, 1, 1, 2, 2, 1, -1, -2, -2, -1] : List Int32).getD j 0
def q_sr (j : Nat) : Int32 := ([0, 1, 0, -1, 1, 1, -1, -1, 2, 1, -1, -2, -2, -1, 1, 2] : List Int32).getD j 0
def q_sl : List Nat := [8, 4]
def q_sb : List (List Int32) := [[46, 75, 81, 82, 66, 78, 35, 107], [32, 61, 43, 35]]
def q_Y (ad : Nat → Nat) (A : Nat → Prop) (U : State) (H : Heap) : Prop :=
  va_Z "MateKeys" "STEP_COLUMNS" "[I" (.ref (ad 1000)) A U H ∧ va_T .int (ad 1000) 16 (fun j => .int (q_sc j)) A U H ∧
  va_Z "MateKeys" "STEP_ROWS" "[I" (.ref (ad 1001)) A U H ∧ va_T .int (ad 1001) 16 (fun j => .int (q_sr j)) A U H ∧
  (vk_R "MateKeys$Line" 19 ".KQRBN#k" (ad 2000) U ∧ vk_R "MateKeys$Line" 34 " =+#" (ad 2001) U ∧ vk_R "MateKeys$Script" 61 ".KQRBN#k" (ad 2000) U ∧ vk_R "MateKeysModel" 175 ".KQRBN#k" (ad 2000) U) ∧
  vk_S 2 q_sl q_sb (fun i => ad (2000 + i)) (fun i => ad (2010 + i)) A U H ∧
  va_Z "java/lang/String" "COMPACT_STRINGS" "Z" (.int 1) A U H ∧
  (va_Z "jdk/internal/util/Preconditions" "SIOOBE_FORMATTER" "Ljava/util/function/BiFunction;" .null A U H ∨ va_Z "jdk/internal/util/Preconditions" "SIOOBE_FORMATTER" "Ljava/util/function/BiFunction;" (.ref (ad 2020)) A U H)
theorem q_Y.go {ad : Nat → Nat} {A B : Nat → Prop} {u U : State} {H H1 : Heap} (h : q_Y ad A u H) (hW : u.WarmedH U.vm) (hq : ∀ a : Nat, a < H.size → ¬ A a → H1[a]? = H[a]?) (hAB : ∀ q, B q → A q) : q_Y ad B U H1 := by
  obtain ⟨h1, h2, h3, h4, ⟨r1, r2, r3, r4⟩, h5, h6, h7⟩ := h
  exact ⟨((h1.moved hW.alike).kept hq).narrow hAB, ((h2.moved hW.alike).kept hq).narrow hAB, ((h3.moved hW.alike).kept hq).narrow hAB, ((h4.moved hW.alike).kept hq).narrow hAB, ⟨r1.warm hW, r2.warm hW, r3.warm hW, r4.warm hW⟩, ((h5.moved hW.alike).kept hq).narrow hAB, ((h6.moved hW.alike).kept hq).narrow hAB, h7.imp (fun z => ((z.moved hW.alike).kept hq).narrow hAB) (fun z => ((z.moved hW.alike).kept hq).narrow hAB)⟩
/-- the tables' words that a method may carry -/
def qT : List Cond := lw_tbl.filter goodWord
theorem qT_good {w : Cond} (h : w ∈ qT) : (w.onTables && w.keeps) = true ∨ ∃ ty, w = .arrayClass ty := good_of_word (List.mem_filter.mp h).2
theorem qT_in {w : Cond} (i : Nat) (h : lw_tbl[i]? = some w) (hg : goodWord w = true) : w ∈ qT := List.mem_filter.mpr ⟨List.mem_of_getElem? h, hg⟩
/-- the links across the nest -/
def q_isN : Cond → Bool
  | .fieldLinkNest .. => true
  | .methodLinkNest .. => true
  | _ => false
def qN : List Cond := lw_tbl.filter q_isN
theorem qN_in {w : Cond} (i : Nat) (h : lw_tbl[i]? = some w) (hg : q_isN w = true) : w ∈ qN := List.mem_filter.mpr ⟨List.mem_of_getElem? h, hg⟩
theorem qN_warm {w : Cond} (hw : q_isN w = true) {s U : State} (hW : s.WarmedH U.vm) (hZ : va_Nw w s) : va_Nw w U := by
  cases w <;> first | exact hZ.warmF hW | exact hZ.warmM hW | (simp [q_isN] at hw; done)
theorem qN_of {w : Cond} (hw : q_isN w = true) {a : Array Value} {s : State} (h : w.before a s = true) : va_Nw w s := by
  cases w <;> first | exact va_Nw.of rfl h | (simp [q_isN] at hw; done)
def q_G (ad : Nat → Nat) (cy : Nat → ClassId) (D : va_G) (A : Nat → Prop) (U : State) (H : Heap) : Prop :=
  va_K D vwCl [(cy 0, .int), (cy 1, .char), (cy 2, .object "MateKeys$Position")] U ∧ (∀ w ∈ qN, va_Nw w U) ∧ q_Y ad A U H
theorem q_G.go {ad : Nat → Nat} {cy : Nat → ClassId} {D : va_G} {A B : Nat → Prop} {u U : State} {H H1 : Heap} (h : q_G ad cy D A u H) (hW : u.WarmedH U.vm) (hq : ∀ a : Nat, a < H.size → ¬ A a → H1[a]? = H[a]?) (hAB : ∀ q, B q → A q) : q_G ad cy D B U H1 :=
  ⟨va_K.moved hW.alike h.1, fun w hw => qN_warm (List.mem_filter.mp hw).2 hW (h.2.1 w hw), h.2.2.go hW hq hAB⟩
/-- a method: its name, its code, its locals, its type, its room -/
abbrev qM : Type := MethodName × ByteArray × Nat × Option FieldType × Room
abbrev qws (M : qM) : List Cond := Cond.code M.1 M.2.1 M.2.2.1 M.2.2.2.1 :: qT
abbrev qX : Type := Program × Launch × Env × State × MethodId × Array Value × List Frame × Method × Code × (Nat → Nat) × (Nat → ClassId) × va_G × (Nat → Prop) × Nat × Nat × Nat × (State → Prop)
def Ex (X : qX) (M : qM) (pc : Nat) (loc : List (Nat × Value)) (st : List Value) (h : qH) : Prop :=
  match X with
  | (p, l, e, s, m, args, below, meth, c, ad, cy, D, A, cells, slots, len, Q) =>
    ∀ (H : Heap) (locs : List Loc) (ls : Array Slot), h.length = len → va_P D vwCl (q_w ad cy h) H → va_D A (q_w ad cy h) → va_S A s.heap H locs → lv_has ls M.2.2.1 (loc.map (fun q => (q.1, q_v ad q.2))) → W p l e M.2.2.2.2 s m args below meth c H locs cells slots Q (F0 m pc ls (st.map (q_v ad)))
def qC (X : qX) (M : qM) : Prop :=
  match X with
  | (p, l, e, s, m, args, below, meth, c, ad, cy, D, A, cells, slots, len, Q) =>
    p.tables.exec = Jvm.exec ∧ c.code = M.2.1 ∧ c.maxLocals = M.2.2.1 ∧ s.vm.findClass M.1.cls = some m.cls ∧ (∀ w ∈ qT, w.before args s = true) ∧ (∀ q, s.heap.size ≤ q → A q) ∧ q_G ad cy D A s s.heap ∧ cells ≤ M.2.2.2.2.cells ∧ slots ≤ M.2.2.2.2.slots
def q_B (ad : Nat → Nat) (cy : Nat → ClassId) (D : va_G) (h : qH) (sz : Nat) (U : State) : Prop :=
  U.heap.size = sz ∧ va_P D vwCl (q_w ad cy h) U.heap ∧ va_D (fun _ => True) (q_w ad cy h) ∧ q_G ad cy D (va_A (q_w ad cy h) sz) U U.heap
def q_Q (ad : Nat → Nat) (cy : Nat → ClassId) (D : va_G) (A1 : Nat → Prop) (r : Option Value) (h h' : qH) : Array Value → State → Outcome → State → Prop := fun _ st oc t =>
  (oc = .returned (r.map (q_v ad)) ∧ h'.length = h.length ∧ va_P D vwCl (q_w ad cy h') t.heap) ∧ va_F A1 st t
/-- the contract: with these arguments over this heap the method answers r and leaves h' -/
def Ok (M : qM) (args : List Value) (h : qH) (r : Option Value) (h' : qH) : Prop :=
  ∀ (l : Launch) (ad : Nat → Nat) (cy : Nat → ClassId) (D : va_G) (sz : Nat), Met l M.1 (qws M) M.2.2.2.2 (va_Pc (args.map (q_v ad)) (q_B ad cy D h sz)) (q_Q ad cy D (va_A (q_w ad cy h) sz) r h h') 0 0 (va_A (q_w ad cy h) sz)
/-- what a walk may end with -/
def qEnd (X : qX) (M : qM) (r : Option Value) (h' : qH) : Prop :=
  (∀ (pc : Nat) (loc : List (Nat × Value)) (v : Int32) (ty : FieldType), decode M.2.1 pc = .ok (.ireturn, 1) → M.2.2.2.1 = some ty → narrow ty (.int v) = .int v → r = some (.int v) → Ex X M pc loc [.int v] h') ∧
  (∀ (pc : Nat) (loc : List (Nat × Value)), decode M.2.1 pc = .ok (.return_, 1) → M.2.2.2.1 = none → r = none → Ex X M pc loc [] h') ∧
  (∀ (pc : Nat) (loc : List (Nat × Value)) (v : Value) (ty : FieldType), decode M.2.1 pc = .ok (.areturn, 1) → M.2.2.2.1 = some ty → ((∃ n, ty = .object n) ∨ ∃ t, ty = .array t) → (v = .null ∨ ∃ a, v = .ref a) → r = some v → Ex X M pc loc [v] h')
theorem q_args (ad : Nat → Nat) : ∀ (i : Nat) (vs : List Value), lv_args i (vs.map (q_v ad)) = (lv_args i vs).map (fun q => (q.1, q_v ad q.2))
  | _, [] => rfl
  | i, v :: vs => by simp only [List.map_cons, lv_args, q_v_cat, q_args ad _ vs]
theorem q_sl_len (ad : Nat → Nat) : ∀ (vs : List Value), (lg_sl (vs.map (q_v ad))).length = (lg_sl vs).length
  | [] => rfl
  | v :: vs => by
    have ih := q_sl_len ad vs
    simp only [lg_sl] at ih ⊢
    simp only [List.map_cons, List.flatMap_cons, List.length_append, q_v_cat, ih]
    split <;> rfl
theorem q_B.calling {ad : Nat → Nat} {cy : Nat → ClassId} {D : va_G} {h : qH} {sz : Nat} {U : State} {g : JFrame} {mk : MethodId} {a : Array Value} (q : q_B ad cy D h sz U) : q_B ad cy D h sz (U.calling g mk a) := by
  obtain ⟨q0, q1, q2, q3⟩ := q
  exact ⟨q0, q1, q2, q3.go (u := U) (U := U.calling g mk a) (State.WarmedH.refl U) (fun _ _ _ => rfl) (fun _ h => h)⟩
theorem ok_of {M : qM} {args : List Value} {h : qH} {r : Option Value} {h' : qH} (hy : plainName M.1.cls = true) (hcells : 0 ≤ M.2.2.2.2.cells) (hn : (lg_sl args).length ≤ M.2.2.1)
    (body : ∀ X : qX, qC X M → qEnd X M r h' → Ex X M 0 (lv_args 0 args) [] h) : Ok M args h r h' := by
  intro l ad cy D sz
  refine Met.ofW (cc := M.2.1) (maxL := M.2.2.1) (ret := M.2.2.2.1) hy rfl ?_
  intro p e s m args2 below meth c s₁ B hml hv
  obtain ⟨rfl, hsz, hP, hD0, hG⟩ := hv
  have hx := B.exec
  have hb := B.bytes
  have hr := B.returns
  have hts := atoms_spec (ws := qws M) B.pre
  have hown : s.vm.findClass M.1.cls = some m.cls := findClass_of_methodNamed B.named
  have hlocks := B.notSynchronized
  subst hsz
  have hD := hD0.self (sz := s.heap.size)
  have hS : va_S (va_A (q_w ad cy h) s.heap.size) s.heap s.heap [] := va_S.rf
  have hl := lv_entry (args.map (q_v ad)) (n := M.2.2.1) (by rw [q_sl_len]; exact hn)
  rw [q_args] at hl
  rw [lg_entry_eq]
  refine body (p, l, e, s, m, _, below, meth, c, ad, cy, D, va_A (q_w ad cy h) s.heap.size, 0, 0, h.length, _) ⟨hx, hb, hml, hown, fun w hw => hts w (List.mem_cons_of_mem _ hw), fun q hq => Or.inr hq, hG, Nat.zero_le _, Nat.zero_le _⟩ ⟨?_, ?_, ?_⟩ s.heap [] _ rfl hP hD hS hl
  · intro pc loc v ty hd hty hnar hrv H locs ls hlen hP hD hS hl
    exact W.zret hx hb (hr.trans hty) hnar (fun t ht hW => ⟨⟨by rw [hrv]; rfl, hlen, by rw [ht]; exact hP⟩, hS.F ht⟩) hS.2.2 hd hlocks
  · intro pc loc hd hty hrv H locs ls hlen hP hD hS hl
    exact W.vret hx hb (hr.trans hty) (fun t ht hW => ⟨⟨by rw [hrv]; rfl, hlen, by rw [ht]; exact hP⟩, hS.F ht⟩) hS.2.2 hd hlocks
  · intro pc loc v ty hd hty hrt hv hrv H locs ls hlen hP hD hS hl
    exact W.aret (v := q_v ad v) hx hb (hr.trans hty) hrt (hv.elim (fun e => Or.inl (by rw [e]; rfl)) (fun ⟨a, e⟩ => Or.inr ⟨ad a, by rw [e]; rfl⟩)) (fun t ht hW => ⟨⟨by rw [hrv]; rfl, hlen, by rw [ht]; exact hP⟩, hS.F ht⟩) hS.2.2 hd hlocks

theorem x_iconst {X : qX} {M : qM} (C : qC X M) {pc : Nat} {loc : List (Nat × Value)} {st : List Value} {h : qH} {n : Int} {v : Int32} (hd : decode M.2.1 pc = .ok (.iconst n, 1)) (hv : Int32.ofInt n = v) (kk : Ex X M (pc + 1) loc (.int v :: st) h) : Ex X M pc loc (st) h := by
  obtain ⟨p, l, e, s, m, args, below, meth, c, ad, cy, D, A, cells, slots, len, Q⟩ := X
  obtain ⟨hx, hb, hml, hown, hts, hA, hG, hce, hso⟩ := C
  intro H locs ls hlen hP hD hS hl
  exact lv_iconst hx hb hd hv (kk H locs ls hlen hP hD hS hl)
theorem x_bipush {X : qX} {M : qM} (C : qC X M) {pc : Nat} {loc : List (Nat × Value)} {st : List Value} {h : qH} {n : Int} {v : Int32} (hd : decode M.2.1 pc = .ok (.bipush n, 2)) (hv : (Int8.ofInt n).toInt32 = v) (kk : Ex X M (pc + 2) loc (.int v :: st) h) : Ex X M pc loc (st) h := by
  obtain ⟨p, l, e, s, m, args, below, meth, c, ad, cy, D, A, cells, slots, len, Q⟩ := X
  obtain ⟨hx, hb, hml, hown, hts, hA, hG, hce, hso⟩ := C
  intro H locs ls hlen hP hD hS hl
  exact lv_bipush hx hb hd hv (kk H locs ls hlen hP hD hS hl)
theorem x_sipush {X : qX} {M : qM} (C : qC X M) {pc : Nat} {loc : List (Nat × Value)} {st : List Value} {h : qH} {n : Int} {v : Int32} (hd : decode M.2.1 pc = .ok (.sipush n, 3)) (hv : (Int16.ofInt n).toInt32 = v) (kk : Ex X M (pc + 3) loc (.int v :: st) h) : Ex X M pc loc (st) h := by
  obtain ⟨p, l, e, s, m, args, below, meth, c, ad, cy, D, A, cells, slots, len, Q⟩ := X
  obtain ⟨hx, hb, hml, hown, hts, hA, hG, hce, hso⟩ := C
  intro H locs ls hlen hP hD hS hl
  exact lv_sipush hx hb hd hv (kk H locs ls hlen hP hD hS hl)
theorem x_ldc {X : qX} {M : qM} (C : qC X M) {pc : Nat} {loc : List (Nat × Value)} {st : List Value} {h : qH} {i : Nat} {v : Int32} (hd : decode M.2.1 pc = .ok (.ldc i, 2)) (hc : Cond.constant M.1.cls i v ∈ qT) (kk : Ex X M (pc + 2) loc (.int v :: st) h) : Ex X M pc loc (st) h := by
  obtain ⟨p, l, e, s, m, args, below, meth, c, ad, cy, D, A, cells, slots, len, Q⟩ := X
  obtain ⟨hx, hb, hml, hown, hts, hA, hG, hce, hso⟩ := C
  intro H locs ls hlen hP hD hS hl
  exact lv_ldc hx hb hown (hts _ hc) hd (kk H locs ls hlen hP hD hS hl)
theorem x_ldcw {X : qX} {M : qM} (C : qC X M) {pc : Nat} {loc : List (Nat × Value)} {st : List Value} {h : qH} {i : Nat} {v : Int32} (hd : decode M.2.1 pc = .ok (.ldc_w i, 3)) (hc : Cond.constant M.1.cls i v ∈ qT) (kk : Ex X M (pc + 3) loc (.int v :: st) h) : Ex X M pc loc (st) h := by
  obtain ⟨p, l, e, s, m, args, below, meth, c, ad, cy, D, A, cells, slots, len, Q⟩ := X
  obtain ⟨hx, hb, hml, hown, hts, hA, hG, hce, hso⟩ := C
  intro H locs ls hlen hP hD hS hl
  exact lv_ldcw hx hb hown (hts _ hc) hd (kk H locs ls hlen hP hD hS hl)
theorem x_iadd {X : qX} {M : qM} (C : qC X M) {pc : Nat} {loc : List (Nat × Value)} {st : List Value} {h : qH} {x y : Int32} (hd : decode M.2.1 pc = .ok (.iadd, 1))  (kk : Ex X M (pc + 1) loc (.int (x + y) :: st) h) : Ex X M pc loc (.int y :: .int x :: st) h := by
  obtain ⟨p, l, e, s, m, args, below, meth, c, ad, cy, D, A, cells, slots, len, Q⟩ := X
  obtain ⟨hx, hb, hml, hown, hts, hA, hG, hce, hso⟩ := C
  intro H locs ls hlen hP hD hS hl
  exact lv_iadd hx hb hd (kk H locs ls hlen hP hD hS hl)
theorem x_isub {X : qX} {M : qM} (C : qC X M) {pc : Nat} {loc : List (Nat × Value)} {st : List Value} {h : qH} {x y : Int32} (hd : decode M.2.1 pc = .ok (.isub, 1))  (kk : Ex X M (pc + 1) loc (.int (x - y) :: st) h) : Ex X M pc loc (.int y :: .int x :: st) h := by
  obtain ⟨p, l, e, s, m, args, below, meth, c, ad, cy, D, A, cells, slots, len, Q⟩ := X
  obtain ⟨hx, hb, hml, hown, hts, hA, hG, hce, hso⟩ := C
  intro H locs ls hlen hP hD hS hl
  exact lv_isub hx hb hd (kk H locs ls hlen hP hD hS hl)
theorem x_imul {X : qX} {M : qM} (C : qC X M) {pc : Nat} {loc : List (Nat × Value)} {st : List Value} {h : qH} {x y : Int32} (hd : decode M.2.1 pc = .ok (.imul, 1))  (kk : Ex X M (pc + 1) loc (.int (x * y) :: st) h) : Ex X M pc loc (.int y :: .int x :: st) h := by
  obtain ⟨p, l, e, s, m, args, below, meth, c, ad, cy, D, A, cells, slots, len, Q⟩ := X
  obtain ⟨hx, hb, hml, hown, hts, hA, hG, hce, hso⟩ := C
  intro H locs ls hlen hP hD hS hl
  exact lv_imul hx hb hd (kk H locs ls hlen hP hD hS hl)
theorem x_iand {X : qX} {M : qM} (C : qC X M) {pc : Nat} {loc : List (Nat × Value)} {st : List Value} {h : qH} {x y : Int32} (hd : decode M.2.1 pc = .ok (.iand, 1))  (kk : Ex X M (pc + 1) loc (.int (x &&& y) :: st) h) : Ex X M pc loc (.int y :: .int x :: st) h := by
  obtain ⟨p, l, e, s, m, args, below, meth, c, ad, cy, D, A, cells, slots, len, Q⟩ := X
  obtain ⟨hx, hb, hml, hown, hts, hA, hG, hce, hso⟩ := C
  intro H locs ls hlen hP hD hS hl
  exact lv_iand hx hb hd (kk H locs ls hlen hP hD hS hl)
theorem x_ior {X : qX} {M : qM} (C : qC X M) {pc : Nat} {loc : List (Nat × Value)} {st : List Value} {h : qH} {x y : Int32} (hd : decode M.2.1 pc = .ok (.ior, 1))  (kk : Ex X M (pc + 1) loc (.int (x ||| y) :: st) h) : Ex X M pc loc (.int y :: .int x :: st) h := by
  obtain ⟨p, l, e, s, m, args, below, meth, c, ad, cy, D, A, cells, slots, len, Q⟩ := X
  obtain ⟨hx, hb, hml, hown, hts, hA, hG, hce, hso⟩ := C
  intro H locs ls hlen hP hD hS hl
  exact lv_ior hx hb hd (kk H locs ls hlen hP hD hS hl)
theorem x_ixor {X : qX} {M : qM} (C : qC X M) {pc : Nat} {loc : List (Nat × Value)} {st : List Value} {h : qH} {x y : Int32} (hd : decode M.2.1 pc = .ok (.ixor, 1))  (kk : Ex X M (pc + 1) loc (.int (x ^^^ y) :: st) h) : Ex X M pc loc (.int y :: .int x :: st) h := by
  obtain ⟨p, l, e, s, m, args, below, meth, c, ad, cy, D, A, cells, slots, len, Q⟩ := X
  obtain ⟨hx, hb, hml, hown, hts, hA, hG, hce, hso⟩ := C
  intro H locs ls hlen hP hD hS hl
  exact lv_ixor hx hb hd (kk H locs ls hlen hP hD hS hl)
theorem x_ishl {X : qX} {M : qM} (C : qC X M) {pc : Nat} {loc : List (Nat × Value)} {st : List Value} {h : qH} {x y : Int32} (hd : decode M.2.1 pc = .ok (.ishl, 1))  (kk : Ex X M (pc + 1) loc (.int (x <<< (y &&& 31)) :: st) h) : Ex X M pc loc (.int y :: .int x :: st) h := by
  obtain ⟨p, l, e, s, m, args, below, meth, c, ad, cy, D, A, cells, slots, len, Q⟩ := X
  obtain ⟨hx, hb, hml, hown, hts, hA, hG, hce, hso⟩ := C
  intro H locs ls hlen hP hD hS hl
  exact lv_ishl hx hb hd (kk H locs ls hlen hP hD hS hl)
theorem x_ishr {X : qX} {M : qM} (C : qC X M) {pc : Nat} {loc : List (Nat × Value)} {st : List Value} {h : qH} {x y : Int32} (hd : decode M.2.1 pc = .ok (.ishr, 1))  (kk : Ex X M (pc + 1) loc (.int (x >>> (y &&& 31)) :: st) h) : Ex X M pc loc (.int y :: .int x :: st) h := by
  obtain ⟨p, l, e, s, m, args, below, meth, c, ad, cy, D, A, cells, slots, len, Q⟩ := X
  obtain ⟨hx, hb, hml, hown, hts, hA, hG, hce, hso⟩ := C
  intro H locs ls hlen hP hD hS hl
  exact lv_ishr hx hb hd (kk H locs ls hlen hP hD hS hl)
theorem x_ineg {X : qX} {M : qM} (C : qC X M) {pc : Nat} {loc : List (Nat × Value)} {st : List Value} {h : qH} {x : Int32} (hd : decode M.2.1 pc = .ok (.ineg, 1))  (kk : Ex X M (pc + 1) loc (.int (-x) :: st) h) : Ex X M pc loc (.int x :: st) h := by
  obtain ⟨p, l, e, s, m, args, below, meth, c, ad, cy, D, A, cells, slots, len, Q⟩ := X
  obtain ⟨hx, hb, hml, hown, hts, hA, hG, hce, hso⟩ := C
  intro H locs ls hlen hP hD hS hl
  exact lv_ineg hx hb hd (kk H locs ls hlen hP hD hS hl)
theorem x_idiv {X : qX} {M : qM} (C : qC X M) {pc : Nat} {loc : List (Nat × Value)} {st : List Value} {h : qH} {x y : Int32} (hd : decode M.2.1 pc = .ok (.idiv, 1)) (hne : ¬ y = 0) (kk : Ex X M (pc + 1) loc (.int (x / y) :: st) h) : Ex X M pc loc (.int y :: .int x :: st) h := by
  obtain ⟨p, l, e, s, m, args, below, meth, c, ad, cy, D, A, cells, slots, len, Q⟩ := X
  obtain ⟨hx, hb, hml, hown, hts, hA, hG, hce, hso⟩ := C
  intro H locs ls hlen hP hD hS hl
  exact lv_idiv hx hb hd hne (kk H locs ls hlen hP hD hS hl)
theorem x_irem {X : qX} {M : qM} (C : qC X M) {pc : Nat} {loc : List (Nat × Value)} {st : List Value} {h : qH} {x y : Int32} (hd : decode M.2.1 pc = .ok (.irem, 1)) (hne : ¬ y = 0) (kk : Ex X M (pc + 1) loc (.int (x - x / y * y) :: st) h) : Ex X M pc loc (.int y :: .int x :: st) h := by
  obtain ⟨p, l, e, s, m, args, below, meth, c, ad, cy, D, A, cells, slots, len, Q⟩ := X
  obtain ⟨hx, hb, hml, hown, hts, hA, hG, hce, hso⟩ := C
  intro H locs ls hlen hP hD hS hl
  exact lv_irem hx hb hd hne (kk H locs ls hlen hP hD hS hl)
theorem x_i2c {X : qX} {M : qM} (C : qC X M) {pc : Nat} {loc : List (Nat × Value)} {st : List Value} {h : qH} {x : Int32} (hd : decode M.2.1 pc = .ok (.i2c, 1))  (kk : Ex X M (pc + 1) loc (.int (x.toUInt32 % 65536).toInt32 :: st) h) : Ex X M pc loc (.int x :: st) h := by
  obtain ⟨p, l, e, s, m, args, below, meth, c, ad, cy, D, A, cells, slots, len, Q⟩ := X
  obtain ⟨hx, hb, hml, hown, hts, hA, hG, hce, hso⟩ := C
  intro H locs ls hlen hP hD hS hl
  exact lv_i2c hx hb hd rfl (kk H locs ls hlen hP hD hS hl)
theorem x_null {X : qX} {M : qM} (C : qC X M) {pc : Nat} {loc : List (Nat × Value)} {st : List Value} {h : qH}  (hd : decode M.2.1 pc = .ok (.aconst_null, 1))  (kk : Ex X M (pc + 1) loc (.null :: st) h) : Ex X M pc loc (st) h := by
  obtain ⟨p, l, e, s, m, args, below, meth, c, ad, cy, D, A, cells, slots, len, Q⟩ := X
  obtain ⟨hx, hb, hml, hown, hts, hA, hG, hce, hso⟩ := C
  intro H locs ls hlen hP hD hS hl
  exact lv_null hx hb hd (kk H locs ls hlen hP hD hS hl)
theorem x_dup {X : qX} {M : qM} (C : qC X M) {pc : Nat} {loc : List (Nat × Value)} {st : List Value} {h : qH} {v : Value} (hc : v.category = 1) (hd : decode M.2.1 pc = .ok (.dup, 1)) (kk : Ex X M (pc + 1) loc (v :: v :: st) h) : Ex X M pc loc (v :: st) h := by
  obtain ⟨p, l, e, s, m, args, below, meth, c, ad, cy, D, A, cells, slots, len, Q⟩ := X
  obtain ⟨hx, hb, hml, hown, hts, hA, hG, hce, hso⟩ := C
  intro H locs ls hlen hP hD hS hl
  exact lv_dup hx hb hd (by rw [q_v_cat]; exact hc) (kk H locs ls hlen hP hD hS hl)
theorem x_dup2 {X : qX} {M : qM} (C : qC X M) {pc : Nat} {loc : List (Nat × Value)} {st : List Value} {h : qH} {v u : Value} (hc : v.category = 1) (hc2 : u.category = 1) (hd : decode M.2.1 pc = .ok (.dup2, 1)) (kk : Ex X M (pc + 1) loc (v :: u :: v :: u :: st) h) : Ex X M pc loc (v :: u :: st) h := by
  obtain ⟨p, l, e, s, m, args, below, meth, c, ad, cy, D, A, cells, slots, len, Q⟩ := X
  obtain ⟨hx, hb, hml, hown, hts, hA, hG, hce, hso⟩ := C
  intro H locs ls hlen hP hD hS hl
  exact lv_dup2_11 hx hb hd (by rw [q_v_cat]; exact hc) (by rw [q_v_cat]; exact hc2) (kk H locs ls hlen hP hD hS hl)
theorem x_pop {X : qX} {M : qM} (C : qC X M) {pc : Nat} {loc : List (Nat × Value)} {st : List Value} {h : qH} {v : Value} (hc : v.category = 1) (hd : decode M.2.1 pc = .ok (.pop, 1)) (kk : Ex X M (pc + 1) loc st h) : Ex X M pc loc (v :: st) h := by
  obtain ⟨p, l, e, s, m, args, below, meth, c, ad, cy, D, A, cells, slots, len, Q⟩ := X
  obtain ⟨hx, hb, hml, hown, hts, hA, hG, hce, hso⟩ := C
  intro H locs ls hlen hP hD hS hl
  exact lv_pop hx hb hd (by rw [q_v_cat]; exact hc) (kk H locs ls hlen hP hD hS hl)
theorem q_lat {ls : Array Slot} {n : Nat} {loc : List (Nat × Value)} {ad : Nat → Nat} (hl : lv_has ls n (loc.map (fun q => (q.1, q_v ad q.2)))) {i : Nat} {v : Value} (hi : loc.lookup i = some v) : ls[i]? = some (.val (q_v ad v)) := by
  refine hl.2.2 (i, q_v ad v) (List.mem_map.mpr ⟨(i, v), ?_, rfl⟩)
  clear hl
  induction loc with
  | nil => simp at hi
  | cons a t ih =>
    obtain ⟨k, u⟩ := a
    simp only [List.lookup_cons] at hi
    by_cases hk : (i == k) = true
    · rw [hk] at hi
      simp only [Option.some.injEq] at hi
      have : i = k := by simpa using hk
      rw [this, hi]
      exact List.mem_cons_self
    · have hk' : (i == k) = false := by simpa using hk
      rw [hk'] at hi
      exact List.mem_cons_of_mem _ (ih hi)
/-- a local is set: those of category 1 alone are used -/
def q_set (loc : List (Nat × Value)) (i : Nat) (v : Value) : List (Nat × Value) := (i, v) :: loc.filter (fun q => !(q.1 == i) && !(q.1 + 1 == i && q.2.category == 2))
theorem q_set_map (ad : Nat → Nat) (loc : List (Nat × Value)) (i : Nat) (v : Value) : (i, q_v ad v) :: (loc.map (fun q => (q.1, q_v ad q.2))).filter (fun q => !(q.1 == i) && !(q.1 + 1 == i && q.2.category == 2)) = (q_set loc i v).map (fun q => (q.1, q_v ad q.2)) := by
  simp only [q_set, List.map_cons, List.filter_map]
  congr 2
  apply List.filter_congr
  intro a _
  simp only [Function.comp, q_v_cat]
theorem x_iload_n {X : qX} {M : qM} (C : qC X M) {pc : Nat} {loc : List (Nat × Value)} {st : List Value} {h : qH} {k : Fin 4} {x : Int32} (hd : decode M.2.1 pc = .ok (.iload_n k, 1)) (hi : loc.lookup (k : Nat) = some (.int x)) (kk : Ex X M (pc + 1) loc (.int x :: st) h) : Ex X M pc loc st h := by
  obtain ⟨p, l, e, s, m, args, below, meth, c, ad, cy, D, A, cells, slots, len, Q⟩ := X
  obtain ⟨hx, hb, hml, hown, hts, hA, hG, hce, hso⟩ := C
  intro H locs ls hlen hP hD hS hl
  exact lv_iload_n hx hb hd rfl (q_lat hl hi) (kk H locs ls hlen hP hD hS hl)
theorem x_iload {X : qX} {M : qM} (C : qC X M) {pc : Nat} {loc : List (Nat × Value)} {st : List Value} {h : qH} {i : Nat} {x : Int32} (hd : decode M.2.1 pc = .ok (.iload i, 2)) (hi : loc.lookup i = some (.int x)) (kk : Ex X M (pc + 2) loc (.int x :: st) h) : Ex X M pc loc st h := by
  obtain ⟨p, l, e, s, m, args, below, meth, c, ad, cy, D, A, cells, slots, len, Q⟩ := X
  obtain ⟨hx, hb, hml, hown, hts, hA, hG, hce, hso⟩ := C
  intro H locs ls hlen hP hD hS hl
  exact lv_iload hx hb hd  (q_lat hl hi) (kk H locs ls hlen hP hD hS hl)
theorem x_aload_n {X : qX} {M : qM} (C : qC X M) {pc : Nat} {loc : List (Nat × Value)} {st : List Value} {h : qH} {k : Fin 4} {x : Nat} (hd : decode M.2.1 pc = .ok (.aload_n k, 1)) (hi : loc.lookup (k : Nat) = some (.ref x)) (kk : Ex X M (pc + 1) loc (.ref x :: st) h) : Ex X M pc loc st h := by
  obtain ⟨p, l, e, s, m, args, below, meth, c, ad, cy, D, A, cells, slots, len, Q⟩ := X
  obtain ⟨hx, hb, hml, hown, hts, hA, hG, hce, hso⟩ := C
  intro H locs ls hlen hP hD hS hl
  exact lv_aload_n hx hb hd rfl (q_lat hl hi) (kk H locs ls hlen hP hD hS hl)
theorem x_aload {X : qX} {M : qM} (C : qC X M) {pc : Nat} {loc : List (Nat × Value)} {st : List Value} {h : qH} {i : Nat} {x : Nat} (hd : decode M.2.1 pc = .ok (.aload i, 2)) (hi : loc.lookup i = some (.ref x)) (kk : Ex X M (pc + 2) loc (.ref x :: st) h) : Ex X M pc loc st h := by
  obtain ⟨p, l, e, s, m, args, below, meth, c, ad, cy, D, A, cells, slots, len, Q⟩ := X
  obtain ⟨hx, hb, hml, hown, hts, hA, hG, hce, hso⟩ := C
  intro H locs ls hlen hP hD hS hl
  exact lv_aload hx hb hd  (q_lat hl hi) (kk H locs ls hlen hP hD hS hl)
theorem x_istore_n {X : qX} {M : qM} (C : qC X M) {pc : Nat} {loc : List (Nat × Value)} {st : List Value} {h : qH} {k : Fin 4} {x : Int32} (hd : decode M.2.1 pc = .ok (.istore_n k, 1)) (hn : (k : Nat) < M.2.2.1) (loc2 : List (Nat × Value)) (h2 : q_set loc (k : Nat) (.int x) = loc2) (kk : Ex X M (pc + 1) loc2 st h) : Ex X M pc loc (.int x :: st) h := by
  obtain ⟨p, l, e, s, m, args, below, meth, c, ad, cy, D, A, cells, slots, len, Q⟩ := X
  obtain ⟨hx, hb, hml, hown, hts, hA, hG, hce, hso⟩ := C
  intro H locs ls hlen hP hD hS hl
  subst h2
  exact lv_istore_n hx hb hd rfl hl hn (q_set_map ad loc (k : Nat) (.int x)) (fun ls hl => kk H locs ls hlen hP hD hS hl)
theorem x_istore {X : qX} {M : qM} (C : qC X M) {pc : Nat} {loc : List (Nat × Value)} {st : List Value} {h : qH} {i : Nat} {x : Int32} (hd : decode M.2.1 pc = .ok (.istore i, 2)) (hn : i < M.2.2.1) (loc2 : List (Nat × Value)) (h2 : q_set loc i (.int x) = loc2) (kk : Ex X M (pc + 2) loc2 st h) : Ex X M pc loc (.int x :: st) h := by
  obtain ⟨p, l, e, s, m, args, below, meth, c, ad, cy, D, A, cells, slots, len, Q⟩ := X
  obtain ⟨hx, hb, hml, hown, hts, hA, hG, hce, hso⟩ := C
  intro H locs ls hlen hP hD hS hl
  subst h2
  exact lv_istore hx hb hd  hl hn (q_set_map ad loc i (.int x)) (fun ls hl => kk H locs ls hlen hP hD hS hl)
theorem x_astore_n {X : qX} {M : qM} (C : qC X M) {pc : Nat} {loc : List (Nat × Value)} {st : List Value} {h : qH} {k : Fin 4} {x : Nat} (hd : decode M.2.1 pc = .ok (.astore_n k, 1)) (hn : (k : Nat) < M.2.2.1) (loc2 : List (Nat × Value)) (h2 : q_set loc (k : Nat) (.ref x) = loc2) (kk : Ex X M (pc + 1) loc2 st h) : Ex X M pc loc (.ref x :: st) h := by
  obtain ⟨p, l, e, s, m, args, below, meth, c, ad, cy, D, A, cells, slots, len, Q⟩ := X
  obtain ⟨hx, hb, hml, hown, hts, hA, hG, hce, hso⟩ := C
  intro H locs ls hlen hP hD hS hl
  subst h2
  exact lv_astore_n hx hb hd rfl hl hn (q_set_map ad loc (k : Nat) (.ref x)) (fun ls hl => kk H locs ls hlen hP hD hS hl)
theorem x_astore {X : qX} {M : qM} (C : qC X M) {pc : Nat} {loc : List (Nat × Value)} {st : List Value} {h : qH} {i : Nat} {x : Nat} (hd : decode M.2.1 pc = .ok (.astore i, 2)) (hn : i < M.2.2.1) (loc2 : List (Nat × Value)) (h2 : q_set loc i (.ref x) = loc2) (kk : Ex X M (pc + 2) loc2 st h) : Ex X M pc loc (.ref x :: st) h := by
  obtain ⟨p, l, e, s, m, args, below, meth, c, ad, cy, D, A, cells, slots, len, Q⟩ := X
  obtain ⟨hx, hb, hml, hown, hts, hA, hG, hce, hso⟩ := C
  intro H locs ls hlen hP hD hS hl
  subst h2
  exact lv_astore hx hb hd  hl hn (q_set_map ad loc i (.ref x)) (fun ls hl => kk H locs ls hlen hP hD hS hl)
theorem q_lget {loc : List (Nat × Value)} {i : Nat} {v : Value} : loc.lookup i = some v → ∃ k : Nat, loc[k]? = some (i, v) := by
  induction loc with
  | nil => intro hi; simp at hi
  | cons a t ih =>
    obtain ⟨k, u⟩ := a
    intro hi
    simp only [List.lookup_cons] at hi
    by_cases hk : (i == k) = true
    · rw [hk] at hi
      simp only [Option.some.injEq] at hi
      have : i = k := by simpa using hk
      exact ⟨0, by rw [this, hi]; rfl⟩
    · have hk' : (i == k) = false := by simpa using hk
      rw [hk'] at hi
      obtain ⟨j, hj⟩ := ih hi
      exact ⟨j + 1, hj⟩
theorem x_iinc {X : qX} {M : qM} (C : qC X M) {pc : Nat} {loc : List (Nat × Value)} {st : List Value} {h : qH} {i : Nat} {n : Int} {x : Int32} (v : Int32) (hd : decode M.2.1 pc = .ok (.iinc i n, 3)) (hi : loc.lookup i = some (.int x)) (hv : x + Int32.ofInt n = v) (hn : i < M.2.2.1) (loc2 : List (Nat × Value)) (h2 : q_set loc i (.int v) = loc2) (kk : Ex X M (pc + 3) loc2 st h) : Ex X M pc loc st h := by
  obtain ⟨p, l, e, s, m, args, below, meth, c, ad, cy, D, A, cells, slots, len, Q⟩ := X
  obtain ⟨hx, hb, hml, hown, hts, hA, hG, hce, hso⟩ := C
  intro H locs ls hlen hP hD hS hl
  subst h2
  obtain ⟨k, hk⟩ := q_lget hi
  exact lv_iinc (v := v) hx hb hd hl (k := k) (by rw [List.getElem?_map, hk]; rfl) hv hn (q_set_map ad loc i (.int v)) (fun ls hl => kk H locs ls hlen hP hD hS hl)
theorem x_if_eq {X : qX} {M : qM} (C : qC X M) {pc : Nat} {loc : List (Nat × Value)} {st : List Value} {h : qH} {x : Int32} {off : Int} (tgt : Nat) (hd : decode M.2.1 pc = .ok (.ifCond .eq off, 3)) (ht : (pc : Int) + off = (tgt : Int)) (kt : x = 0 → Ex X M tgt loc st h) (kf : ¬ x = 0 → Ex X M (pc + 3) loc st h) : Ex X M pc loc (.int x :: st) h := by
  obtain ⟨p, l, e, s, m, args, below, meth, c, ad, cy, D, A, cells, slots, len, Q⟩ := X
  obtain ⟨hx, hb, hml, hown, hts, hA, hG, hce, hso⟩ := C
  intro H locs ls hlen hP hD hS hl
  exact lv_if_eq hx hb hd ht (fun q => kt q H locs ls hlen hP hD hS hl) (fun q => kf q H locs ls hlen hP hD hS hl)
theorem x_if_ne {X : qX} {M : qM} (C : qC X M) {pc : Nat} {loc : List (Nat × Value)} {st : List Value} {h : qH} {x : Int32} {off : Int} (tgt : Nat) (hd : decode M.2.1 pc = .ok (.ifCond .ne off, 3)) (ht : (pc : Int) + off = (tgt : Int)) (kt : ¬ x = 0 → Ex X M tgt loc st h) (kf : x = 0 → Ex X M (pc + 3) loc st h) : Ex X M pc loc (.int x :: st) h := by
  obtain ⟨p, l, e, s, m, args, below, meth, c, ad, cy, D, A, cells, slots, len, Q⟩ := X
  obtain ⟨hx, hb, hml, hown, hts, hA, hG, hce, hso⟩ := C
  intro H locs ls hlen hP hD hS hl
  exact lv_if_ne hx hb hd ht (fun q => kt q H locs ls hlen hP hD hS hl) (fun q => kf q H locs ls hlen hP hD hS hl)
theorem x_if_lt {X : qX} {M : qM} (C : qC X M) {pc : Nat} {loc : List (Nat × Value)} {st : List Value} {h : qH} {x : Int32} {off : Int} (tgt : Nat) (hd : decode M.2.1 pc = .ok (.ifCond .lt off, 3)) (ht : (pc : Int) + off = (tgt : Int)) (kt : x < 0 → Ex X M tgt loc st h) (kf : ¬ x < 0 → Ex X M (pc + 3) loc st h) : Ex X M pc loc (.int x :: st) h := by
  obtain ⟨p, l, e, s, m, args, below, meth, c, ad, cy, D, A, cells, slots, len, Q⟩ := X
  obtain ⟨hx, hb, hml, hown, hts, hA, hG, hce, hso⟩ := C
  intro H locs ls hlen hP hD hS hl
  exact lv_if_lt hx hb hd ht (fun q => kt q H locs ls hlen hP hD hS hl) (fun q => kf q H locs ls hlen hP hD hS hl)
theorem x_if_ge {X : qX} {M : qM} (C : qC X M) {pc : Nat} {loc : List (Nat × Value)} {st : List Value} {h : qH} {x : Int32} {off : Int} (tgt : Nat) (hd : decode M.2.1 pc = .ok (.ifCond .ge off, 3)) (ht : (pc : Int) + off = (tgt : Int)) (kt : 0 ≤ x → Ex X M tgt loc st h) (kf : ¬ 0 ≤ x → Ex X M (pc + 3) loc st h) : Ex X M pc loc (.int x :: st) h := by
  obtain ⟨p, l, e, s, m, args, below, meth, c, ad, cy, D, A, cells, slots, len, Q⟩ := X
  obtain ⟨hx, hb, hml, hown, hts, hA, hG, hce, hso⟩ := C
  intro H locs ls hlen hP hD hS hl
  exact lv_if_ge hx hb hd ht (fun q => kt q H locs ls hlen hP hD hS hl) (fun q => kf q H locs ls hlen hP hD hS hl)
theorem x_if_gt {X : qX} {M : qM} (C : qC X M) {pc : Nat} {loc : List (Nat × Value)} {st : List Value} {h : qH} {x : Int32} {off : Int} (tgt : Nat) (hd : decode M.2.1 pc = .ok (.ifCond .gt off, 3)) (ht : (pc : Int) + off = (tgt : Int)) (kt : 0 < x → Ex X M tgt loc st h) (kf : ¬ 0 < x → Ex X M (pc + 3) loc st h) : Ex X M pc loc (.int x :: st) h := by
  obtain ⟨p, l, e, s, m, args, below, meth, c, ad, cy, D, A, cells, slots, len, Q⟩ := X
  obtain ⟨hx, hb, hml, hown, hts, hA, hG, hce, hso⟩ := C
  intro H locs ls hlen hP hD hS hl
  exact lv_if_gt hx hb hd ht (fun q => kt q H locs ls hlen hP hD hS hl) (fun q => kf q H locs ls hlen hP hD hS hl)
theorem x_if_le {X : qX} {M : qM} (C : qC X M) {pc : Nat} {loc : List (Nat × Value)} {st : List Value} {h : qH} {x : Int32} {off : Int} (tgt : Nat) (hd : decode M.2.1 pc = .ok (.ifCond .le off, 3)) (ht : (pc : Int) + off = (tgt : Int)) (kt : x ≤ 0 → Ex X M tgt loc st h) (kf : ¬ x ≤ 0 → Ex X M (pc + 3) loc st h) : Ex X M pc loc (.int x :: st) h := by
  obtain ⟨p, l, e, s, m, args, below, meth, c, ad, cy, D, A, cells, slots, len, Q⟩ := X
  obtain ⟨hx, hb, hml, hown, hts, hA, hG, hce, hso⟩ := C
  intro H locs ls hlen hP hD hS hl
  exact lv_if_le hx hb hd ht (fun q => kt q H locs ls hlen hP hD hS hl) (fun q => kf q H locs ls hlen hP hD hS hl)
theorem x_icmp_eq {X : qX} {M : qM} (C : qC X M) {pc : Nat} {loc : List (Nat × Value)} {st : List Value} {h : qH} {x y : Int32} {off : Int} (tgt : Nat) (hd : decode M.2.1 pc = .ok (.if_icmp .eq off, 3)) (ht : (pc : Int) + off = (tgt : Int)) (kt : x = y → Ex X M tgt loc st h) (kf : ¬ x = y → Ex X M (pc + 3) loc st h) : Ex X M pc loc (.int y :: .int x :: st) h := by
  obtain ⟨p, l, e, s, m, args, below, meth, c, ad, cy, D, A, cells, slots, len, Q⟩ := X
  obtain ⟨hx, hb, hml, hown, hts, hA, hG, hce, hso⟩ := C
  intro H locs ls hlen hP hD hS hl
  exact lv_icmp_eq hx hb hd ht (fun q => kt q H locs ls hlen hP hD hS hl) (fun q => kf q H locs ls hlen hP hD hS hl)
theorem x_icmp_ne {X : qX} {M : qM} (C : qC X M) {pc : Nat} {loc : List (Nat × Value)} {st : List Value} {h : qH} {x y : Int32} {off : Int} (tgt : Nat) (hd : decode M.2.1 pc = .ok (.if_icmp .ne off, 3)) (ht : (pc : Int) + off = (tgt : Int)) (kt : ¬ x = y → Ex X M tgt loc st h) (kf : x = y → Ex X M (pc + 3) loc st h) : Ex X M pc loc (.int y :: .int x :: st) h := by
  obtain ⟨p, l, e, s, m, args, below, meth, c, ad, cy, D, A, cells, slots, len, Q⟩ := X
  obtain ⟨hx, hb, hml, hown, hts, hA, hG, hce, hso⟩ := C
  intro H locs ls hlen hP hD hS hl
  exact lv_icmp_ne hx hb hd ht (fun q => kt q H locs ls hlen hP hD hS hl) (fun q => kf q H locs ls hlen hP hD hS hl)
theorem x_icmp_lt {X : qX} {M : qM} (C : qC X M) {pc : Nat} {loc : List (Nat × Value)} {st : List Value} {h : qH} {x y : Int32} {off : Int} (tgt : Nat) (hd : decode M.2.1 pc = .ok (.if_icmp .lt off, 3)) (ht : (pc : Int) + off = (tgt : Int)) (kt : x < y → Ex X M tgt loc st h) (kf : ¬ x < y → Ex X M (pc + 3) loc st h) : Ex X M pc loc (.int y :: .int x :: st) h := by
  obtain ⟨p, l, e, s, m, args, below, meth, c, ad, cy, D, A, cells, slots, len, Q⟩ := X
  obtain ⟨hx, hb, hml, hown, hts, hA, hG, hce, hso⟩ := C
  intro H locs ls hlen hP hD hS hl
  exact lv_icmp_lt hx hb hd ht (fun q => kt q H locs ls hlen hP hD hS hl) (fun q => kf q H locs ls hlen hP hD hS hl)
theorem x_icmp_ge {X : qX} {M : qM} (C : qC X M) {pc : Nat} {loc : List (Nat × Value)} {st : List Value} {h : qH} {x y : Int32} {off : Int} (tgt : Nat) (hd : decode M.2.1 pc = .ok (.if_icmp .ge off, 3)) (ht : (pc : Int) + off = (tgt : Int)) (kt : y ≤ x → Ex X M tgt loc st h) (kf : ¬ y ≤ x → Ex X M (pc + 3) loc st h) : Ex X M pc loc (.int y :: .int x :: st) h := by
  obtain ⟨p, l, e, s, m, args, below, meth, c, ad, cy, D, A, cells, slots, len, Q⟩ := X
  obtain ⟨hx, hb, hml, hown, hts, hA, hG, hce, hso⟩ := C
  intro H locs ls hlen hP hD hS hl
  exact lv_icmp_ge hx hb hd ht (fun q => kt q H locs ls hlen hP hD hS hl) (fun q => kf q H locs ls hlen hP hD hS hl)
theorem x_icmp_gt {X : qX} {M : qM} (C : qC X M) {pc : Nat} {loc : List (Nat × Value)} {st : List Value} {h : qH} {x y : Int32} {off : Int} (tgt : Nat) (hd : decode M.2.1 pc = .ok (.if_icmp .gt off, 3)) (ht : (pc : Int) + off = (tgt : Int)) (kt : y < x → Ex X M tgt loc st h) (kf : ¬ y < x → Ex X M (pc + 3) loc st h) : Ex X M pc loc (.int y :: .int x :: st) h := by
  obtain ⟨p, l, e, s, m, args, below, meth, c, ad, cy, D, A, cells, slots, len, Q⟩ := X
  obtain ⟨hx, hb, hml, hown, hts, hA, hG, hce, hso⟩ := C
  intro H locs ls hlen hP hD hS hl
  exact lv_icmp_gt hx hb hd ht (fun q => kt q H locs ls hlen hP hD hS hl) (fun q => kf q H locs ls hlen hP hD hS hl)
theorem x_icmp_le {X : qX} {M : qM} (C : qC X M) {pc : Nat} {loc : List (Nat × Value)} {st : List Value} {h : qH} {x y : Int32} {off : Int} (tgt : Nat) (hd : decode M.2.1 pc = .ok (.if_icmp .le off, 3)) (ht : (pc : Int) + off = (tgt : Int)) (kt : x ≤ y → Ex X M tgt loc st h) (kf : ¬ x ≤ y → Ex X M (pc + 3) loc st h) : Ex X M pc loc (.int y :: .int x :: st) h := by
  obtain ⟨p, l, e, s, m, args, below, meth, c, ad, cy, D, A, cells, slots, len, Q⟩ := X
  obtain ⟨hx, hb, hml, hown, hts, hA, hG, hce, hso⟩ := C
  intro H locs ls hlen hP hD hS hl
  exact lv_icmp_le hx hb hd ht (fun q => kt q H locs ls hlen hP hD hS hl) (fun q => kf q H locs ls hlen hP hD hS hl)
theorem x_goto {X : qX} {M : qM} (C : qC X M) {pc : Nat} {loc : List (Nat × Value)} {st : List Value} {h : qH} {off : Int} (tgt : Nat) (hd : decode M.2.1 pc = .ok (.goto off, 3)) (ht : (pc : Int) + off = (tgt : Int)) (kk : Ex X M tgt loc st h) : Ex X M pc loc st h := by
  obtain ⟨p, l, e, s, m, args, below, meth, c, ad, cy, D, A, cells, slots, len, Q⟩ := X
  obtain ⟨hx, hb, hml, hown, hts, hA, hG, hce, hso⟩ := C
  intro H locs ls hlen hP hD hS hl
  exact lv_goto hx hb hd ht (kk H locs ls hlen hP hD hS hl)
theorem x_ifnull {X : qX} {M : qM} (C : qC X M) {pc : Nat} {loc : List (Nat × Value)} {st : List Value} {h : qH} {b : Nat} {off : Int} (hd : decode M.2.1 pc = .ok (.ifnull off, 3)) (kk : Ex X M (pc + 3) loc st h) : Ex X M pc loc (.ref b :: st) h := by
  obtain ⟨p, l, e, s, m, args, below, meth, c, ad, cy, D, A, cells, slots, len, Q⟩ := X
  obtain ⟨hx, hb, hml, hown, hts, hA, hG, hce, hso⟩ := C
  intro H locs ls hlen hP hD hS hl
  exact lv_ifnull hx hb hd (kk H locs ls hlen hP hD hS hl)
theorem x_ifnullN {X : qX} {M : qM} (C : qC X M) {pc : Nat} {loc : List (Nat × Value)} {st : List Value} {h : qH} {off : Int} (tgt : Nat) (hd : decode M.2.1 pc = .ok (.ifnull off, 3)) (ht : (pc : Int) + off = (tgt : Int)) (kk : Ex X M tgt loc st h) : Ex X M pc loc (.null :: st) h := by
  obtain ⟨p, l, e, s, m, args, below, meth, c, ad, cy, D, A, cells, slots, len, Q⟩ := X
  obtain ⟨hx, hb, hml, hown, hts, hA, hG, hce, hso⟩ := C
  intro H locs ls hlen hP hD hS hl
  exact lv_ifnullN hx hb hd ht (kk H locs ls hlen hP hD hS hl)
theorem x_ifnonnull {X : qX} {M : qM} (C : qC X M) {pc : Nat} {loc : List (Nat × Value)} {st : List Value} {h : qH} {b : Nat} {off : Int} (tgt : Nat) (hd : decode M.2.1 pc = .ok (.ifnonnull off, 3)) (ht : (pc : Int) + off = (tgt : Int)) (kk : Ex X M tgt loc st h) : Ex X M pc loc (.ref b :: st) h := by
  obtain ⟨p, l, e, s, m, args, below, meth, c, ad, cy, D, A, cells, slots, len, Q⟩ := X
  obtain ⟨hx, hb, hml, hown, hts, hA, hG, hce, hso⟩ := C
  intro H locs ls hlen hP hD hS hl
  exact lv_ifnonnull hx hb hd ht (kk H locs ls hlen hP hD hS hl)
theorem x_ifnonnullN {X : qX} {M : qM} (C : qC X M) {pc : Nat} {loc : List (Nat × Value)} {st : List Value} {h : qH} {off : Int} (hd : decode M.2.1 pc = .ok (.ifnonnull off, 3)) (kk : Ex X M (pc + 3) loc st h) : Ex X M pc loc (.null :: st) h := by
  obtain ⟨p, l, e, s, m, args, below, meth, c, ad, cy, D, A, cells, slots, len, Q⟩ := X
  obtain ⟨hx, hb, hml, hown, hts, hA, hG, hce, hso⟩ := C
  intro H locs ls hlen hP hD hS hl
  exact lv_ifnonnullN hx hb hd (kk H locs ls hlen hP hD hS hl)
/-- a class of ours: its number, its name, its fields -/
def qCls (ci : Nat) (K : String) (T : u_T) (N : Nat) (ty : Nat → FieldType) : Prop :=
  vwCl[ci]? = some (K, T, N) ∧ (∀ w ∈ u_ws K T N, w ∈ qT) ∧ (∀ k, k < N → parseFieldDescriptor (T k).2.2.1 = some (ty k)) ∧ (∀ a, a < N → ∀ b, b < N → a ≠ b → (T a).2.1 ≠ (T b).2.1)
theorem x_getfield {X : qX} {M : qM} (C : qC X M) {pc : Nat} {loc : List (Nat × Value)} {st : List Value} {h : qH} {ci : Nat} {K : String} {T : u_T} {N : Nat} {ty : Nat → FieldType} (hK : qCls ci K T N ty) {idx b : Nat} {fs : List Value} {v : Value} (k : Nat) (hk : k < N) (hlk : Cond.fieldLink M.1.cls idx (T k).1 (T k).2.1 (T k).2.2.1 ∈ qT) (hd : decode M.2.1 pc = .ok (.getfield idx, 3)) (ho : h[b]? = some (.inr (ci, fs))) (hv : fs[k]? = some v) (kk : Ex X M (pc + 3) loc (v :: st) h) : Ex X M pc loc (.ref b :: st) h := by
  obtain ⟨p, l, e, s, m, args, below, meth, c, ad, cy, D, A, cells, slots, len, Q⟩ := X
  obtain ⟨hx, hb, hml, hown, hts, hA, hG, hce, hso⟩ := C
  intro H locs ls hlen hP hD hS hl
  exact va_get (D := D) (ci := ci) (v := q_v ad v) hx hb hts hK.2.1 hown hG.1 hP b (q_w_get ho) hK.1 k hk (hts _ hlk) (fun _ h9 => h9) (by rw [List.getElem?_map, hv]; rfl) hd (kk H locs ls hlen hP hD hS hl)
theorem x_putfield {X : qX} {M : qM} (C : qC X M) {pc : Nat} {loc : List (Nat × Value)} {st : List Value} {h : qH} {ci : Nat} {K : String} {T : u_T} {N : Nat} {ty : Nat → FieldType} (hK : qCls ci K T N ty) {idx b : Nat} {fs : List Value} {v : Int32} (k : Nat) (hk : k < N) (hlk : Cond.fieldLink M.1.cls idx (T k).1 (T k).2.1 (T k).2.2.1 ∈ qT) (hfin : (T k).2.2.2 = false) {ty0 : FieldType} (hpd : parseFieldDescriptor (T k).2.2.1 = some ty0) (hn : narrow ty0 (.int v) = .int v) (hfit : fits ty0 (.int v) = true) (hd : decode M.2.1 pc = .ok (.putfield idx, 3)) (ho : h[b]? = some (.inr (ci, fs))) (hf : k < fs.length) (kk : Ex X M (pc + 3) loc st (h.set b (.inr (ci, fs.set k (.int v))))) : Ex X M pc loc (.int v :: .ref b :: st) h := by
  obtain ⟨p, l, e, s, m, args, below, meth, c, ad, cy, D, A, cells, slots, len, Q⟩ := X
  obtain ⟨hx, hb, hml, hown, hts, hA, hG, hce, hso⟩ := C
  intro H locs ls hlen hP hD hS hl
  refine va_put (D := D) (ci := ci) (v := .int v) (ty := ty0) hx hb hts hK.2.1 ty hK.2.2.1 hK.2.2.2 hown hG.1 hP hD hS b (q_w_get ho) hK.1 k hk (hts _ hlk) (fun _ h9 => h9) hfin hpd hn hfit (by rw [List.length_map]; exact hf) hd (fun H1 locs1 hP1 hD1 hS1 => ?_)
  have e : (ad b, Sum.inr (ci, (fs.map (q_v ad)).set k (.int v))) = (ad b, q_e ad cy (.inr (ci, fs.set k (.int v)))) := by simp only [q_e, List.map_set]; rfl
  rw [e, q_w_set] at hP1 hD1
  exact kk H1 locs1 ls (by rw [List.length_set]; exact hlen) hP1 hD1 hS1 hl
theorem x_iaload {X : qX} {M : qM} (C : qC X M) {pc : Nat} {loc : List (Nat × Value)} {st : List Value} {h : qH} {a n : Nat} {i : Int32} {f : Nat → Int32} (hd : decode M.2.1 pc = .ok (.iaload, 1)) (ho : h[a]? = some (.inl (0, n, .inl f))) (hin : vp_in i n) (kk : Ex X M (pc + 1) loc (.int (f i.toNatClampNeg) :: st) h) : Ex X M pc loc (.int i :: .ref a :: st) h := by
  obtain ⟨p, l, e, s, m, args, below, meth, c, ad, cy, D, A, cells, slots, len, Q⟩ := X
  obtain ⟨hx, hb, hml, hown, hts, hA, hG, hce, hso⟩ := C
  intro H locs ls hlen hP hD hS hl
  exact va_iald hx hb hG.1 hP a 0 (q_w_get ho) rfl hin hd (kk H locs ls hlen hP hD hS hl)
theorem x_caload {X : qX} {M : qM} (C : qC X M) {pc : Nat} {loc : List (Nat × Value)} {st : List Value} {h : qH} {a n : Nat} {i : Int32} {f : Nat → Int32} (hd : decode M.2.1 pc = .ok (.caload, 1)) (ho : h[a]? = some (.inl (1, n, .inl f))) (hin : vp_in i n) (kk : Ex X M (pc + 1) loc (.int (f i.toNatClampNeg) :: st) h) : Ex X M pc loc (.int i :: .ref a :: st) h := by
  obtain ⟨p, l, e, s, m, args, below, meth, c, ad, cy, D, A, cells, slots, len, Q⟩ := X
  obtain ⟨hx, hb, hml, hown, hts, hA, hG, hce, hso⟩ := C
  intro H locs ls hlen hP hD hS hl
  exact va_cald hx hb hG.1 hP a 1 (q_w_get ho) rfl hin hd (kk H locs ls hlen hP hD hS hl)
theorem x_iastore {X : qX} {M : qM} (C : qC X M) {pc : Nat} {loc : List (Nat × Value)} {st : List Value} {h : qH} {a n : Nat} {i x : Int32} {f : Nat → Int32} (hd : decode M.2.1 pc = .ok (.iastore, 1)) (ho : h[a]? = some (.inl (0, n, .inl f))) (hin : vp_in i n) (kk : Ex X M (pc + 1) loc st (h.set a (.inl (0, n, .inl (upd f i.toNatClampNeg x))))) : Ex X M pc loc (.int x :: .int i :: .ref a :: st) h := by
  obtain ⟨p, l, e, s, m, args, below, meth, c, ad, cy, D, A, cells, slots, len, Q⟩ := X
  obtain ⟨hx, hb, hml, hown, hts, hA, hG, hce, hso⟩ := C
  intro H locs ls hlen hP hD hS hl
  refine va_iast hx hb hG.1 hP hD hS a 0 (q_w_get ho) rfl hin hd (fun H1 locs1 hP1 hD1 hS1 => ?_)
  have e : (ad a, (Sum.inl (cy 0, n, Sum.inl (upd f i.toNatClampNeg x)) : va_E)) = (ad a, q_e ad cy (.inl (0, n, .inl (upd f i.toNatClampNeg x)))) := rfl
  rw [e, q_w_set] at hP1 hD1
  exact kk H1 locs1 ls (by rw [List.length_set]; exact hlen) hP1 hD1 hS1 hl
theorem x_aaload {X : qX} {M : qM} (C : qC X M) {pc : Nat} {loc : List (Nat × Value)} {st : List Value} {h : qH} {a n : Nat} {i : Int32} {f : Nat → Option Nat} (hd : decode M.2.1 pc = .ok (.aaload, 1)) (ho : h[a]? = some (.inl (2, n, .inr (.inr (.inr (.inr f)))))) (hin : vp_in i n) (kk : Ex X M (pc + 1) loc (va_rf (f i.toNatClampNeg) :: st) h) : Ex X M pc loc (.int i :: .ref a :: st) h := by
  obtain ⟨p, l, e, s, m, args, below, meth, c, ad, cy, D, A, cells, slots, len, Q⟩ := X
  obtain ⟨hx, hb, hml, hown, hts, hA, hG, hce, hso⟩ := C
  intro H locs ls hlen hP hD hS hl
  refine va_aldq hx hb hG.1 hP a 2 (C := "MateKeys$Position") (q_w_get ho) rfl hin hd ?_
  have e : va_rf ((f i.toNatClampNeg).map ad) = q_v ad (va_rf (f i.toNatClampNeg)) := by cases f i.toNatClampNeg <;> rfl
  have k2 := kk H locs ls hlen hP hD hS hl
  rw [List.map_cons, ← e] at k2
  exact k2
theorem x_stepc {X : qX} {M : qM} (C : qC X M) {pc : Nat} {loc : List (Nat × Value)} {st : List Value} {h : qH} {idx : Nat} (hlk : Cond.fieldLinkNest M.1.cls idx "MateKeys" "STEP_COLUMNS" "[I" "MateKeys" ∈ qN) (hd : decode M.2.1 pc = .ok (.getstatic idx, 3)) (kk : Ex X M (pc + 3) loc (.ref 1000 :: st) h) : Ex X M pc loc st h := by
  obtain ⟨p, l, e, s, m, args, below, meth, c, ad, cy, D, A, cells, slots, len, Q⟩ := X
  obtain ⟨hx, hb, hml, hown, hts, hA, hG, hce, hso⟩ := C
  intro H locs ls hlen hP hD hS hl
  exact va_getsN hx hb hG.2.2.1 hS hown (va_Nw.use rfl (hG.2.1 _ hlk)) (fun _ h9 => h9) hd (kk H locs ls hlen hP hD hS hl)
theorem x_stepr {X : qX} {M : qM} (C : qC X M) {pc : Nat} {loc : List (Nat × Value)} {st : List Value} {h : qH} {idx : Nat} (hlk : Cond.fieldLinkNest M.1.cls idx "MateKeys" "STEP_ROWS" "[I" "MateKeys" ∈ qN) (hd : decode M.2.1 pc = .ok (.getstatic idx, 3)) (kk : Ex X M (pc + 3) loc (.ref 1001 :: st) h) : Ex X M pc loc st h := by
  obtain ⟨p, l, e, s, m, args, below, meth, c, ad, cy, D, A, cells, slots, len, Q⟩ := X
  obtain ⟨hx, hb, hml, hown, hts, hA, hG, hce, hso⟩ := C
  intro H locs ls hlen hP hD hS hl
  exact va_getsN hx hb hG.2.2.2.2.1 hS hown (va_Nw.use rfl (hG.2.1 _ hlk)) (fun _ h9 => h9) hd (kk H locs ls hlen hP hD hS hl)
theorem x_stepcld {X : qX} {M : qM} (C : qC X M) {pc : Nat} {loc : List (Nat × Value)} {st : List Value} {h : qH} {i : Int32} (hd : decode M.2.1 pc = .ok (.iaload, 1)) (hin : vp_in i 16) (kk : Ex X M (pc + 1) loc (.int (q_sc i.toNatClampNeg) :: st) h) : Ex X M pc loc (.int i :: .ref 1000 :: st) h := by
  obtain ⟨p, l, e, s, m, args, below, meth, c, ad, cy, D, A, cells, slots, len, Q⟩ := X
  obtain ⟨hx, hb, hml, hown, hts, hA, hG, hce, hso⟩ := C
  intro H locs ls hlen hP hD hS hl
  exact va_ti hx hb hG.2.2.2.1 hS hin rfl hd (kk H locs ls hlen hP hD hS hl)
theorem x_steprld {X : qX} {M : qM} (C : qC X M) {pc : Nat} {loc : List (Nat × Value)} {st : List Value} {h : qH} {i : Int32} (hd : decode M.2.1 pc = .ok (.iaload, 1)) (hin : vp_in i 16) (kk : Ex X M (pc + 1) loc (.int (q_sr i.toNatClampNeg) :: st) h) : Ex X M pc loc (.int i :: .ref 1001 :: st) h := by
  obtain ⟨p, l, e, s, m, args, below, meth, c, ad, cy, D, A, cells, slots, len, Q⟩ := X
  obtain ⟨hx, hb, hml, hown, hts, hA, hG, hce, hso⟩ := C
  intro H locs ls hlen hP hD hS hl
  exact va_ti hx hb hG.2.2.2.2.2.1 hS hin rfl hd (kk H locs ls hlen hP hD hS hl)
section QCALL
variable {p : Program} {l : Launch} {e : Env} {R : Room} {s : State} {m : MethodId} {args : Array Value} {below : List Frame} {meth : Method} {c : Code} {H : Heap} {locs : List Loc} {cells slots : Nat} {Q : State → Prop}
theorem q_call {pc : Nat} {ls : Array Slot} {rest st0 : List Value} {a : Array Value} {A0 A1 : Nat → Prop} {ad : Nat → Nat} {cy : Nat → ClassId} {D : va_G} {r : Option Value} {h h' : qH} (hr : va_Run p l e R s m args below meth c H locs cells slots 0 0 (F0 m pc ls st0) rest (q_Q ad cy D A1 r h h' a) A1) (hS : va_S A0 s.heap H locs) (hA : ∀ q, A1 q → A0 q)
    (kk : ∀ (H1 : Heap) (locs1 : List Loc), h'.length = h.length → va_P D vwCl (q_w ad cy h') H1 → va_S A0 s.heap H1 locs1 → W p l e R s m args below meth c H1 locs1 cells slots Q (F0 m (pc + 3) ls ((r.map (q_v ad)).toList ++ rest))) : W p l e R s m args below meth c H locs cells slots Q (F0 m pc ls st0) := by
  intro T hT X
  obtain ⟨v, st₀, t, T', L, h0, X', hL, e1, e2, ⟨⟨hv, hlen, hb⟩, hz, hk⟩, st⟩ := hr T hT X
  cases hv
  rw [h0] at hz hk
  obtain ⟨t2, a1, b1⟩ := kk T'.heap (locs ++ L) hlen (by rw [e1]; exact hb)
    ⟨Nat.le_trans hS.1 (by rw [e1]; exact hz), fun q h1 h2 => by rw [e1, hk q (Nat.lt_of_lt_of_le h1 hS.1) (fun z => h2 (hA q z))]; exact hS.2.1 q h1 h2, fun q hq => by
      rcases List.mem_append.mp hq with h | h
      · exact hS.2.2 q h
      · exact hA _ (hL q h)⟩ T' rfl X'
  exact ⟨t2, st t2 a1, b1⟩
end QCALL
/-- what the tables say of a method -/
def qIn (M : qM) : Prop := Cond.code M.1 M.2.1 M.2.2.1 M.2.2.2.1 ∈ qT ∧ Cond.initialized M.1.cls ∈ qT ∧ (M.1.cls ≠ "java/lang/invoke/MethodHandle" ∧ M.1.cls ≠ "java/lang/invoke/VarHandle") ∧ M.2.2.2.2.cells = 0 ∧ M.2.2.2.2.slots = 0
def qIs (M : qM) : Prop := Cond.instanceMethod M.1 ∈ qT ∧ Cond.selects M.1.cls M.1 M.1 ∈ qT
def qAr (M : qM) (n : Nat) : Prop := (parseMethodDescriptor M.1.desc).map (fun d => d.parameters.length) = some n
def qRm (M N : qM) : Prop := N.2.2.2.2.frames + 1 ≤ M.2.2.2.2.frames ∧ 8 + (N.2.2.1 + 11) + N.2.2.2.2.locals ≤ M.2.2.2.2.locals
theorem q_pay {s : State} {args : Array Value} (hts : ∀ w ∈ qT, w.before args s = true) {N : qM} (hI : qIn N) : ∀ w ∈ qws N, ∀ (a' : Array Value) (U : State), s.WarmedH U.vm → w.before a' U = true := by
  intro w hw a' U hW
  rcases List.mem_cons.mp hw with rfl | hw
  · exact word_at hW (qT_good hI.1) (hts _ hI.1)
  · exact word_at hW (qT_good hw) (hts _ hw)
theorem q_ar {N : qM} {n : Nat} (h : qAr N n) : ∀ sig, parseMethodDescriptor N.1.desc = some sig → n = sig.parameters.length := by
  intro sig hs
  have h2 := h
  unfold qAr at h2
  rw [hs] at h2
  exact (Option.some.inj h2).symm
theorem q_pre {ad : Nat → Nat} {cy : Nat → ClassId} {D : va_G} {A : Nat → Prop} {s : State} {H : Heap} {locs : List Loc} {h : qH} (hP : va_P D vwCl (q_w ad cy h) H) (hD : va_D A (q_w ad cy h)) (hS : va_S A s.heap H locs) (hA : ∀ q, s.heap.size ≤ q → A q) (hG : q_G ad cy D A s s.heap) : (∀ q, va_A (q_w ad cy h) H.size q → A q) ∧ ∀ U : State, U.heap = H → s.WarmedH U.vm → q_B ad cy D h H.size U := by
  have hF : ∀ q, va_A (q_w ad cy h) H.size q → A q := by
    intro q hq
    rcases hq with ⟨k, e, hk⟩ | hq
    · exact hD.2 k _ hk
    · exact hA q (Nat.le_trans hS.1 hq)
  refine ⟨hF, fun U hU hW => ⟨by rw [hU], by rw [hU]; exact hP, hD.weaken (fun _ _ _ _ => trivial), ?_⟩⟩
  exact hG.go hW (fun a ha hn => by rw [hU]; exact hS.2.1 a ha hn) hF
theorem q_map_rev (ad : Nat → Nat) (As st : List Value) (b : Nat) : (As.reverse ++ .ref b :: st).map (q_v ad) = (As.map (q_v ad)).reverse ++ .ref (ad b) :: st.map (q_v ad) := by
  simp [q_v]
theorem q_room {ad : Nat → Nat} {st : List Value} (h : (st.map fun v => v.category).sum ≤ 8) {m : MethodId} {pc : Nat} {ls : Array Slot} {st0 : List Value} : 2 * (F0 m pc ls st0).monitorRoom + ((st.map (q_v ad)).map fun v => v.category).sum ≤ 8 := by
  have e : (st.map (q_v ad)).map (fun v => v.category) = st.map (fun v => v.category) := by rw [List.map_map]; exact List.map_congr_left (fun v _ => q_v_cat ad v)
  rw [e]
  exact lv_room h
theorem x_callV {X : qX} {M : qM} (C : qC X M) {pc : Nat} {loc : List (Nat × Value)} {st : List Value} {h : qH} {idx b : Nat} {N : qM} {As : List Value} {r : Option Value} {h' : qH} {ci : Nat} {fs : List Value} (hok : Ok N (.ref b :: As) h r h') (hlk : Cond.methodLink M.1.cls idx N.1 ∈ qT) (hI : qIn N) (hs : qIs N) (har : qAr N As.length) (hrm : qRm M N) (hw : (st.map fun v => v.category).sum ≤ 8) (ho : h[b]? = some (.inr (ci, fs))) {T : u_T} {n : Nat} (hc : vwCl[ci]? = some (N.1.cls, T, n)) (hd : decode M.2.1 pc = .ok (.invokevirtual idx, 3)) (kk : Ex X M (pc + 3) loc (r.toList ++ st) h') : Ex X M pc loc (As.reverse ++ .ref b :: st) h := by
  obtain ⟨p, l, e, s, m, args, below, meth, c, ad, cy, D, A, cells, slots, len, Q⟩ := X
  obtain ⟨hx, hb, hml, hown, hts, hA, hG, hce, hso⟩ := C
  intro H locs ls hlen hP hD hS hl
  obtain ⟨hF, hB⟩ := q_pre hP hD hS hA hG
  have hcw : CallW M.2.2.2.2 s args M.1.cls N.1.cls idx N.1 N.2.1 N.2.2.1 N.2.2.2.1 (qws N) N.2.2.2.2 0 0 As.length := ⟨⟨hI.2.2.2.1, hI.2.2.2.2, hrm.1, hrm.2, q_pay hts hI, List.mem_cons_self, hts _ hI.1, hts _ hI.2.1, hI.2.2.1, q_ar har, hts _ hlk⟩, hts _ hs.1, hts _ hs.2⟩
  rw [q_map_rev]
  refine q_call (va_runV (As := As.map (q_v ad)) (rest := st.map (q_v ad)) ⟨hx, hb, hml, hown, hts⟩ (hok l ad cy D H.size) hcw ⟨fun a U g mk q => ⟨q.1, q.2.calling⟩, va_recv hG.1 hP hc (q_w_get ho), fun U hU hW => ⟨rfl, hB U hU hW⟩⟩ rfl (List.length_map ..) hl.1 rfl (q_room hw) hd ⟨hce, hso⟩) hS hF (fun H1 locs1 hlen1 hP1 hS1 => ?_)
  have k2 := kk H1 locs1 ls (hlen1.trans hlen) hP1 (q_w_D hD hlen1) hS1 hl
  cases r <;> exact k2
theorem x_callS {X : qX} {M : qM} (C : qC X M) {pc : Nat} {loc : List (Nat × Value)} {st : List Value} {h : qH} {idx : Nat} {N : qM} {As : List Value} {r : Option Value} {h' : qH} (hok : Ok N As h r h') (hlk : Cond.methodLink M.1.cls idx N.1 ∈ qT) (hI : qIn N) (hs : Cond.static N.1 ∈ qT) (har : qAr N As.length) (hrm : qRm M N) (hw : (st.map fun v => v.category).sum ≤ 8) (hd : decode M.2.1 pc = .ok (.invokestatic idx, 3)) (kk : Ex X M (pc + 3) loc (r.toList ++ st) h') : Ex X M pc loc (As.reverse ++ st) h := by
  obtain ⟨p, l, e, s, m, args, below, meth, c, ad, cy, D, A, cells, slots, len, Q⟩ := X
  obtain ⟨hx, hb, hml, hown, hts, hA, hG, hce, hso⟩ := C
  intro H locs ls hlen hP hD hS hl
  obtain ⟨hF, hB⟩ := q_pre hP hD hS hA hG
  have hcw : CallB M.2.2.2.2 s args M.1.cls idx N.1 N.2.1 N.2.2.1 N.2.2.2.1 (qws N) N.2.2.2.2 0 0 As.length ∧ (Cond.static N.1).before args s = true := ⟨⟨hI.2.2.2.1, hI.2.2.2.2, hrm.1, hrm.2, q_pay hts hI, List.mem_cons_self, hts _ hI.1, hts _ hI.2.1, hI.2.2.1, q_ar har, hts _ hlk⟩, hts _ hs⟩
  rw [show (As.reverse ++ st).map (q_v ad) = (As.map (q_v ad)).reverse ++ st.map (q_v ad) by simp]
  refine q_call (va_runS (As := As.map (q_v ad)) (rest := st.map (q_v ad)) ⟨hx, hb, hml, hown, hts⟩ (hok l ad cy D H.size) hcw ⟨fun a U g mk q => ⟨q.1, q.2.calling⟩, fun U hU hW => ⟨rfl, hB U hU hW⟩⟩ rfl (List.length_map ..) hl.1 rfl (q_room hw) hd ⟨hce, hso⟩) hS hF (fun H1 locs1 hlen1 hP1 hS1 => ?_)
  have k2 := kk H1 locs1 ls (hlen1.trans hlen) hP1 (q_w_D hD hlen1) hS1 hl
  cases r <;> exact k2
theorem x_callN {X : qX} {M : qM} (C : qC X M) {pc : Nat} {loc : List (Nat × Value)} {st : List Value} {h : qH} {idx : Nat} {N : qM} {As : List Value} {r : Option Value} {h' : qH} {host : String} (hok : Ok N As h r h') (hlk : Cond.methodLinkNest M.1.cls idx N.1 host ∈ qN) (hI : qIn N) (hs : Cond.static N.1 ∈ qT) (har : qAr N As.length) (hrm : qRm M N) (hw : (st.map fun v => v.category).sum ≤ 8) (hd : decode M.2.1 pc = .ok (.invokestatic idx, 3)) (kk : Ex X M (pc + 3) loc (r.toList ++ st) h') : Ex X M pc loc (As.reverse ++ st) h := by
  obtain ⟨p, l, e, s, m, args, below, meth, c, ad, cy, D, A, cells, slots, len, Q⟩ := X
  obtain ⟨hx, hb, hml, hown, hts, hA, hG, hce, hso⟩ := C
  intro H locs ls hlen hP hD hS hl
  obtain ⟨hF, hB⟩ := q_pre hP hD hS hA hG
  have hcw : va_CN M.2.2.2.2 s args M.1.cls idx N.1 host N.2.1 N.2.2.1 N.2.2.2.1 (qws N) N.2.2.2.2 0 0 As.length ∧ (Cond.static N.1).before args s = true ∧ True := ⟨⟨⟨hI.2.2.2.1, hI.2.2.2.2, hrm.1, hrm.2, q_pay hts hI, List.mem_cons_self⟩, hts _ hI.1, hts _ hI.2.1, hI.2.2.1, q_ar har, va_Nw.use rfl (hG.2.1 _ hlk)⟩, hts _ hs, trivial⟩
  rw [show (As.reverse ++ st).map (q_v ad) = (As.map (q_v ad)).reverse ++ st.map (q_v ad) by simp]
  refine q_call (va_runSN (As := As.map (q_v ad)) (rest := st.map (q_v ad)) ⟨hx, hb, hml, hown, hts⟩ (hok l ad cy D H.size) hcw ⟨fun a U g mk q => ⟨q.1, q.2.calling⟩, fun U hU hW => ⟨rfl, hB U hU hW⟩⟩ rfl (List.length_map ..) hl.1 rfl (q_room hw) hd ⟨hce, hso⟩) hS hF (fun H1 locs1 hlen1 hP1 hS1 => ?_)
  have k2 := kk H1 locs1 ls (hlen1.trans hlen) hP1 (q_w_D hD hlen1) hS1 hl
  cases r <;> exact k2
/-- the locals, fewer or in another order -/
theorem x_loc {X : qX} {M : qM} {pc : Nat} {loc : List (Nat × Value)} (loc2 : List (Nat × Value)) {st : List Value} {h : qH} (hs : ∀ q ∈ loc2, q ∈ loc) (kk : Ex X M pc loc2 st h) : Ex X M pc loc st h := by
  obtain ⟨p, l, e, s, m, args, below, meth, c, ad, cy, D, A, cells, slots, len, Q⟩ := X
  intro H locs ls hlen hP hD hS hl
  refine kk H locs ls hlen hP hD hS ⟨hl.1, hl.2.1, fun q hq => ?_⟩
  obtain ⟨z, hz, rfl⟩ := List.mem_map.mp hq
  exact hl.2.2 _ (List.mem_map.mpr ⟨z, hs z hz, rfl⟩)
theorem x_iret {X : qX} {M : qM} {pc : Nat} {loc : List (Nat × Value)} {h h' : qH} {v : Int32} {r : Option Value} (E : qEnd X M r h') (ty : FieldType) (hd : decode M.2.1 pc = .ok (.ireturn, 1)) (hty : M.2.2.2.1 = some ty) (hn : narrow ty (.int v) = .int v) (hr : r = some (.int v)) (hh : h = h') : Ex X M pc loc [.int v] h := by
  subst hh
  exact E.1 pc loc v ty hd hty hn hr
theorem x_vret {X : qX} {M : qM} {pc : Nat} {loc : List (Nat × Value)} {h h' : qH} {r : Option Value} (E : qEnd X M r h') (hd : decode M.2.1 pc = .ok (.return_, 1)) (hty : M.2.2.2.1 = none) (hr : r = none) (hh : h = h') : Ex X M pc loc [] h := by
  subst hh
  exact E.2.1 pc loc hd hty hr
theorem x_aret {X : qX} {M : qM} {pc : Nat} {loc : List (Nat × Value)} {h h' : qH} {v : Value} {r : Option Value} (E : qEnd X M r h') (ty : FieldType) (hd : decode M.2.1 pc = .ok (.areturn, 1)) (hty : M.2.2.2.1 = some ty) (hrt : (∃ n, ty = .object n) ∨ ∃ t, ty = .array t) (hv : v = .null ∨ ∃ a, v = .ref a) (hr : r = some v) (hh : h = h') : Ex X M pc loc [v] h := by
  subst hh
  exact E.2.2 pc loc v ty hd hty hrt hv hr
theorem x_callV0i {X : qX} {M : qM} (C : qC X M) {pc : Nat} {loc : List (Nat × Value)} {st : List Value} {h : qH} {v : Value} {idx b : Nat} {N : qM} {h' : qH} {ci : Nat} {fs : List Value} (hok : Ok N [.ref b] h (some v) h') (hlk : Cond.methodLink M.1.cls idx N.1 ∈ qT) (hI : qIn N) (hs : qIs N) (har : qAr N 0) (hrm : qRm M N) (hw : (st.map fun v => v.category).sum ≤ 8) (ho : h[b]? = some (.inr (ci, fs))) {T : u_T} {n : Nat} (hc : vwCl[ci]? = some (N.1.cls, T, n)) (hd : decode M.2.1 pc = .ok (.invokevirtual idx, 3)) (kk : Ex X M (pc + 3) loc (v :: st) h') : Ex X M pc loc (.ref b :: st) h := x_callV (As := []) C hok hlk hI hs har hrm hw ho hc hd kk
theorem x_callV0v {X : qX} {M : qM} (C : qC X M) {pc : Nat} {loc : List (Nat × Value)} {st : List Value} {h : qH} {idx b : Nat} {N : qM} {h' : qH} {ci : Nat} {fs : List Value} (hok : Ok N [.ref b] h (none) h') (hlk : Cond.methodLink M.1.cls idx N.1 ∈ qT) (hI : qIn N) (hs : qIs N) (har : qAr N 0) (hrm : qRm M N) (hw : (st.map fun v => v.category).sum ≤ 8) (ho : h[b]? = some (.inr (ci, fs))) {T : u_T} {n : Nat} (hc : vwCl[ci]? = some (N.1.cls, T, n)) (hd : decode M.2.1 pc = .ok (.invokevirtual idx, 3)) (kk : Ex X M (pc + 3) loc (st) h') : Ex X M pc loc (.ref b :: st) h := x_callV (As := []) C hok hlk hI hs har hrm hw ho hc hd kk
theorem x_callV1i {X : qX} {M : qM} (C : qC X M) {pc : Nat} {loc : List (Nat × Value)} {st : List Value} {h : qH} {v : Value} {idx b : Nat} {N : qM} {a1 : Value} {h' : qH} {ci : Nat} {fs : List Value} (hok : Ok N [.ref b, a1] h (some v) h') (hlk : Cond.methodLink M.1.cls idx N.1 ∈ qT) (hI : qIn N) (hs : qIs N) (har : qAr N 1) (hrm : qRm M N) (hw : (st.map fun v => v.category).sum ≤ 8) (ho : h[b]? = some (.inr (ci, fs))) {T : u_T} {n : Nat} (hc : vwCl[ci]? = some (N.1.cls, T, n)) (hd : decode M.2.1 pc = .ok (.invokevirtual idx, 3)) (kk : Ex X M (pc + 3) loc (v :: st) h') : Ex X M pc loc (a1 :: .ref b :: st) h := x_callV (As := [a1]) C hok hlk hI hs har hrm hw ho hc hd kk
theorem x_callS1i {X : qX} {M : qM} (C : qC X M) {pc : Nat} {loc : List (Nat × Value)} {st : List Value} {h : qH} {v : Value} {idx : Nat} {N : qM} {a1 : Value} {h' : qH} (hok : Ok N [a1] h (some v) h') (hlk : Cond.methodLink M.1.cls idx N.1 ∈ qT) (hI : qIn N) (hs : Cond.static N.1 ∈ qT) (har : qAr N 1) (hrm : qRm M N) (hw : (st.map fun v => v.category).sum ≤ 8) (hd : decode M.2.1 pc = .ok (.invokestatic idx, 3)) (kk : Ex X M (pc + 3) loc (v :: st) h') : Ex X M pc loc (a1 :: st) h := x_callS (As := [a1]) C hok hlk hI hs har hrm hw hd kk
theorem x_callN1i {X : qX} {M : qM} (C : qC X M) {pc : Nat} {loc : List (Nat × Value)} {st : List Value} {h : qH} {v : Value} {idx : Nat} {N : qM} {a1 : Value} {h' : qH} {host : String} (hok : Ok N [a1] h (some v) h') (hlk : Cond.methodLinkNest M.1.cls idx N.1 host ∈ qN) (hI : qIn N) (hs : Cond.static N.1 ∈ qT) (har : qAr N 1) (hrm : qRm M N) (hw : (st.map fun v => v.category).sum ≤ 8) (hd : decode M.2.1 pc = .ok (.invokestatic idx, 3)) (kk : Ex X M (pc + 3) loc (v :: st) h') : Ex X M pc loc (a1 :: st) h := x_callN (As := [a1]) C hok hlk hI hs har hrm hw hd kk
theorem x_callV1v {X : qX} {M : qM} (C : qC X M) {pc : Nat} {loc : List (Nat × Value)} {st : List Value} {h : qH} {idx b : Nat} {N : qM} {a1 : Value} {h' : qH} {ci : Nat} {fs : List Value} (hok : Ok N [.ref b, a1] h (none) h') (hlk : Cond.methodLink M.1.cls idx N.1 ∈ qT) (hI : qIn N) (hs : qIs N) (har : qAr N 1) (hrm : qRm M N) (hw : (st.map fun v => v.category).sum ≤ 8) (ho : h[b]? = some (.inr (ci, fs))) {T : u_T} {n : Nat} (hc : vwCl[ci]? = some (N.1.cls, T, n)) (hd : decode M.2.1 pc = .ok (.invokevirtual idx, 3)) (kk : Ex X M (pc + 3) loc (st) h') : Ex X M pc loc (a1 :: .ref b :: st) h := x_callV (As := [a1]) C hok hlk hI hs har hrm hw ho hc hd kk
theorem x_callS1v {X : qX} {M : qM} (C : qC X M) {pc : Nat} {loc : List (Nat × Value)} {st : List Value} {h : qH} {idx : Nat} {N : qM} {a1 : Value} {h' : qH} (hok : Ok N [a1] h (none) h') (hlk : Cond.methodLink M.1.cls idx N.1 ∈ qT) (hI : qIn N) (hs : Cond.static N.1 ∈ qT) (har : qAr N 1) (hrm : qRm M N) (hw : (st.map fun v => v.category).sum ≤ 8) (hd : decode M.2.1 pc = .ok (.invokestatic idx, 3)) (kk : Ex X M (pc + 3) loc (st) h') : Ex X M pc loc (a1 :: st) h := x_callS (As := [a1]) C hok hlk hI hs har hrm hw hd kk
theorem x_callN1v {X : qX} {M : qM} (C : qC X M) {pc : Nat} {loc : List (Nat × Value)} {st : List Value} {h : qH} {idx : Nat} {N : qM} {a1 : Value} {h' : qH} {host : String} (hok : Ok N [a1] h (none) h') (hlk : Cond.methodLinkNest M.1.cls idx N.1 host ∈ qN) (hI : qIn N) (hs : Cond.static N.1 ∈ qT) (har : qAr N 1) (hrm : qRm M N) (hw : (st.map fun v => v.category).sum ≤ 8) (hd : decode M.2.1 pc = .ok (.invokestatic idx, 3)) (kk : Ex X M (pc + 3) loc (st) h') : Ex X M pc loc (a1 :: st) h := x_callN (As := [a1]) C hok hlk hI hs har hrm hw hd kk
theorem x_callV2i {X : qX} {M : qM} (C : qC X M) {pc : Nat} {loc : List (Nat × Value)} {st : List Value} {h : qH} {v : Value} {idx b : Nat} {N : qM} {a1 a2 : Value} {h' : qH} {ci : Nat} {fs : List Value} (hok : Ok N [.ref b, a1, a2] h (some v) h') (hlk : Cond.methodLink M.1.cls idx N.1 ∈ qT) (hI : qIn N) (hs : qIs N) (har : qAr N 2) (hrm : qRm M N) (hw : (st.map fun v => v.category).sum ≤ 8) (ho : h[b]? = some (.inr (ci, fs))) {T : u_T} {n : Nat} (hc : vwCl[ci]? = some (N.1.cls, T, n)) (hd : decode M.2.1 pc = .ok (.invokevirtual idx, 3)) (kk : Ex X M (pc + 3) loc (v :: st) h') : Ex X M pc loc (a2 :: a1 :: .ref b :: st) h := x_callV (As := [a1, a2]) C hok hlk hI hs har hrm hw ho hc hd kk
theorem x_callS2i {X : qX} {M : qM} (C : qC X M) {pc : Nat} {loc : List (Nat × Value)} {st : List Value} {h : qH} {v : Value} {idx : Nat} {N : qM} {a1 a2 : Value} {h' : qH} (hok : Ok N [a1, a2] h (some v) h') (hlk : Cond.methodLink M.1.cls idx N.1 ∈ qT) (hI : qIn N) (hs : Cond.static N.1 ∈ qT) (har : qAr N 2) (hrm : qRm M N) (hw : (st.map fun v => v.category).sum ≤ 8) (hd : decode M.2.1 pc = .ok (.invokestatic idx, 3)) (kk : Ex X M (pc + 3) loc (v :: st) h') : Ex X M pc loc (a2 :: a1 :: st) h := x_callS (As := [a1, a2]) C hok hlk hI hs har hrm hw hd kk
theorem x_callN2i {X : qX} {M : qM} (C : qC X M) {pc : Nat} {loc : List (Nat × Value)} {st : List Value} {h : qH} {v : Value} {idx : Nat} {N : qM} {a1 a2 : Value} {h' : qH} {host : String} (hok : Ok N [a1, a2] h (some v) h') (hlk : Cond.methodLinkNest M.1.cls idx N.1 host ∈ qN) (hI : qIn N) (hs : Cond.static N.1 ∈ qT) (har : qAr N 2) (hrm : qRm M N) (hw : (st.map fun v => v.category).sum ≤ 8) (hd : decode M.2.1 pc = .ok (.invokestatic idx, 3)) (kk : Ex X M (pc + 3) loc (v :: st) h') : Ex X M pc loc (a2 :: a1 :: st) h := x_callN (As := [a1, a2]) C hok hlk hI hs har hrm hw hd kk
theorem x_callV2v {X : qX} {M : qM} (C : qC X M) {pc : Nat} {loc : List (Nat × Value)} {st : List Value} {h : qH} {idx b : Nat} {N : qM} {a1 a2 : Value} {h' : qH} {ci : Nat} {fs : List Value} (hok : Ok N [.ref b, a1, a2] h (none) h') (hlk : Cond.methodLink M.1.cls idx N.1 ∈ qT) (hI : qIn N) (hs : qIs N) (har : qAr N 2) (hrm : qRm M N) (hw : (st.map fun v => v.category).sum ≤ 8) (ho : h[b]? = some (.inr (ci, fs))) {T : u_T} {n : Nat} (hc : vwCl[ci]? = some (N.1.cls, T, n)) (hd : decode M.2.1 pc = .ok (.invokevirtual idx, 3)) (kk : Ex X M (pc + 3) loc (st) h') : Ex X M pc loc (a2 :: a1 :: .ref b :: st) h := x_callV (As := [a1, a2]) C hok hlk hI hs har hrm hw ho hc hd kk
theorem x_callS2v {X : qX} {M : qM} (C : qC X M) {pc : Nat} {loc : List (Nat × Value)} {st : List Value} {h : qH} {idx : Nat} {N : qM} {a1 a2 : Value} {h' : qH} (hok : Ok N [a1, a2] h (none) h') (hlk : Cond.methodLink M.1.cls idx N.1 ∈ qT) (hI : qIn N) (hs : Cond.static N.1 ∈ qT) (har : qAr N 2) (hrm : qRm M N) (hw : (st.map fun v => v.category).sum ≤ 8) (hd : decode M.2.1 pc = .ok (.invokestatic idx, 3)) (kk : Ex X M (pc + 3) loc (st) h') : Ex X M pc loc (a2 :: a1 :: st) h := x_callS (As := [a1, a2]) C hok hlk hI hs har hrm hw hd kk
theorem x_callN2v {X : qX} {M : qM} (C : qC X M) {pc : Nat} {loc : List (Nat × Value)} {st : List Value} {h : qH} {idx : Nat} {N : qM} {a1 a2 : Value} {h' : qH} {host : String} (hok : Ok N [a1, a2] h (none) h') (hlk : Cond.methodLinkNest M.1.cls idx N.1 host ∈ qN) (hI : qIn N) (hs : Cond.static N.1 ∈ qT) (har : qAr N 2) (hrm : qRm M N) (hw : (st.map fun v => v.category).sum ≤ 8) (hd : decode M.2.1 pc = .ok (.invokestatic idx, 3)) (kk : Ex X M (pc + 3) loc (st) h') : Ex X M pc loc (a2 :: a1 :: st) h := x_callN (As := [a1, a2]) C hok hlk hI hs har hrm hw hd kk
theorem x_callV3i {X : qX} {M : qM} (C : qC X M) {pc : Nat} {loc : List (Nat × Value)} {st : List Value} {h : qH} {v : Value} {idx b : Nat} {N : qM} {a1 a2 a3 : Value} {h' : qH} {ci : Nat} {fs : List Value} (hok : Ok N [.ref b, a1, a2, a3] h (some v) h') (hlk : Cond.methodLink M.1.cls idx N.1 ∈ qT) (hI : qIn N) (hs : qIs N) (har : qAr N 3) (hrm : qRm M N) (hw : (st.map fun v => v.category).sum ≤ 8) (ho : h[b]? = some (.inr (ci, fs))) {T : u_T} {n : Nat} (hc : vwCl[ci]? = some (N.1.cls, T, n)) (hd : decode M.2.1 pc = .ok (.invokevirtual idx, 3)) (kk : Ex X M (pc + 3) loc (v :: st) h') : Ex X M pc loc (a3 :: a2 :: a1 :: .ref b :: st) h := x_callV (As := [a1, a2, a3]) C hok hlk hI hs har hrm hw ho hc hd kk
theorem x_callS3i {X : qX} {M : qM} (C : qC X M) {pc : Nat} {loc : List (Nat × Value)} {st : List Value} {h : qH} {v : Value} {idx : Nat} {N : qM} {a1 a2 a3 : Value} {h' : qH} (hok : Ok N [a1, a2, a3] h (some v) h') (hlk : Cond.methodLink M.1.cls idx N.1 ∈ qT) (hI : qIn N) (hs : Cond.static N.1 ∈ qT) (har : qAr N 3) (hrm : qRm M N) (hw : (st.map fun v => v.category).sum ≤ 8) (hd : decode M.2.1 pc = .ok (.invokestatic idx, 3)) (kk : Ex X M (pc + 3) loc (v :: st) h') : Ex X M pc loc (a3 :: a2 :: a1 :: st) h := x_callS (As := [a1, a2, a3]) C hok hlk hI hs har hrm hw hd kk
theorem x_callN3i {X : qX} {M : qM} (C : qC X M) {pc : Nat} {loc : List (Nat × Value)} {st : List Value} {h : qH} {v : Value} {idx : Nat} {N : qM} {a1 a2 a3 : Value} {h' : qH} {host : String} (hok : Ok N [a1, a2, a3] h (some v) h') (hlk : Cond.methodLinkNest M.1.cls idx N.1 host ∈ qN) (hI : qIn N) (hs : Cond.static N.1 ∈ qT) (har : qAr N 3) (hrm : qRm M N) (hw : (st.map fun v => v.category).sum ≤ 8) (hd : decode M.2.1 pc = .ok (.invokestatic idx, 3)) (kk : Ex X M (pc + 3) loc (v :: st) h') : Ex X M pc loc (a3 :: a2 :: a1 :: st) h := x_callN (As := [a1, a2, a3]) C hok hlk hI hs har hrm hw hd kk
theorem x_callV3v {X : qX} {M : qM} (C : qC X M) {pc : Nat} {loc : List (Nat × Value)} {st : List Value} {h : qH} {idx b : Nat} {N : qM} {a1 a2 a3 : Value} {h' : qH} {ci : Nat} {fs : List Value} (hok : Ok N [.ref b, a1, a2, a3] h (none) h') (hlk : Cond.methodLink M.1.cls idx N.1 ∈ qT) (hI : qIn N) (hs : qIs N) (har : qAr N 3) (hrm : qRm M N) (hw : (st.map fun v => v.category).sum ≤ 8) (ho : h[b]? = some (.inr (ci, fs))) {T : u_T} {n : Nat} (hc : vwCl[ci]? = some (N.1.cls, T, n)) (hd : decode M.2.1 pc = .ok (.invokevirtual idx, 3)) (kk : Ex X M (pc + 3) loc (st) h') : Ex X M pc loc (a3 :: a2 :: a1 :: .ref b :: st) h := x_callV (As := [a1, a2, a3]) C hok hlk hI hs har hrm hw ho hc hd kk
theorem x_callS3v {X : qX} {M : qM} (C : qC X M) {pc : Nat} {loc : List (Nat × Value)} {st : List Value} {h : qH} {idx : Nat} {N : qM} {a1 a2 a3 : Value} {h' : qH} (hok : Ok N [a1, a2, a3] h (none) h') (hlk : Cond.methodLink M.1.cls idx N.1 ∈ qT) (hI : qIn N) (hs : Cond.static N.1 ∈ qT) (har : qAr N 3) (hrm : qRm M N) (hw : (st.map fun v => v.category).sum ≤ 8) (hd : decode M.2.1 pc = .ok (.invokestatic idx, 3)) (kk : Ex X M (pc + 3) loc (st) h') : Ex X M pc loc (a3 :: a2 :: a1 :: st) h := x_callS (As := [a1, a2, a3]) C hok hlk hI hs har hrm hw hd kk
theorem x_callN3v {X : qX} {M : qM} (C : qC X M) {pc : Nat} {loc : List (Nat × Value)} {st : List Value} {h : qH} {idx : Nat} {N : qM} {a1 a2 a3 : Value} {h' : qH} {host : String} (hok : Ok N [a1, a2, a3] h (none) h') (hlk : Cond.methodLinkNest M.1.cls idx N.1 host ∈ qN) (hI : qIn N) (hs : Cond.static N.1 ∈ qT) (har : qAr N 3) (hrm : qRm M N) (hw : (st.map fun v => v.category).sum ≤ 8) (hd : decode M.2.1 pc = .ok (.invokestatic idx, 3)) (kk : Ex X M (pc + 3) loc (st) h') : Ex X M pc loc (a3 :: a2 :: a1 :: st) h := x_callN (As := [a1, a2, a3]) C hok hlk hI hs har hrm hw hd kk
/-- counters: one up, one down -/
theorem q_inc (i : Nat) : nI i + Int32.ofInt 1 = nI (i + 1) := nI_1 i
theorem q_dec (i : Nat) : nI (i + 1) + Int32.ofInt (-1) = nI i := pk_m1 i
