/-! floats: the share -/
def n32B (r : UInt32) : Bool := decide (r &&& 0x7fffffff ≤ 0x7f800000)
theorem n32_of {r : UInt32} (h : n32B r = true) : vf_n32 r := by unfold vf_n32; unfold n32B at h; exact of_decide_eq_true h
theorem x_fconst0 {X : qX} {M : qM} (C : qC X M) {pc : Nat} {loc : List (Nat × Value)} {st : List Value} {h : qH}  (hd : decode M.2.1 pc = .ok (.fconst 0, 1)) (kk : Ex X M (pc + 1) loc (.float FP.fconst0 :: st) h) : Ex X M pc loc (st) h := by
  obtain ⟨p, l, e, s, m, args, below, meth, c, ad, cy, D, A, cells, slots, len, Q⟩ := X
  obtain ⟨hx, hb, hml, hown, hts, hA, hG, hce, hso⟩ := C
  intro H locs ls hlen hP hD hS hl
  exact lv_fconst0 hx hb hd (kk H locs ls hlen hP hD hS hl)
theorem x_fconst1 {X : qX} {M : qM} (C : qC X M) {pc : Nat} {loc : List (Nat × Value)} {st : List Value} {h : qH}  (hd : decode M.2.1 pc = .ok (.fconst 1, 1)) (kk : Ex X M (pc + 1) loc (.float FP.fconst1 :: st) h) : Ex X M pc loc (st) h := by
  obtain ⟨p, l, e, s, m, args, below, meth, c, ad, cy, D, A, cells, slots, len, Q⟩ := X
  obtain ⟨hx, hb, hml, hown, hts, hA, hG, hce, hso⟩ := C
  intro H locs ls hlen hP hD hS hl
  exact lv_fconst1 hx hb hd (kk H locs ls hlen hP hD hS hl)
theorem x_fconst2 {X : qX} {M : qM} (C : qC X M) {pc : Nat} {loc : List (Nat × Value)} {st : List Value} {h : qH}  (hd : decode M.2.1 pc = .ok (.fconst 2, 1)) (kk : Ex X M (pc + 1) loc (.float FP.fconst2 :: st) h) : Ex X M pc loc (st) h := by
  obtain ⟨p, l, e, s, m, args, below, meth, c, ad, cy, D, A, cells, slots, len, Q⟩ := X
  obtain ⟨hx, hb, hml, hown, hts, hA, hG, hce, hso⟩ := C
  intro H locs ls hlen hP hD hS hl
  exact lv_fconst2 hx hb hd (kk H locs ls hlen hP hD hS hl)
theorem x_fsub {X : qX} {M : qM} (C : qC X M) {pc : Nat} {loc : List (Nat × Value)} {st : List Value} {h : qH} {x y : UInt32} (hn : n32B (FP.fsub x y) = true) (hd : decode M.2.1 pc = .ok (.fsub, 1)) (kk : Ex X M (pc + 1) loc (.float (FP.fsub x y) :: st) h) : Ex X M pc loc (.float y :: .float x :: st) h := by
  obtain ⟨p, l, e, s, m, args, below, meth, c, ad, cy, D, A, cells, slots, len, Q⟩ := X
  obtain ⟨hx, hb, hml, hown, hts, hA, hG, hce, hso⟩ := C
  intro H locs ls hlen hP hD hS hl
  exact lv_fsub hx hb hd (n32_of hn) (kk H locs ls hlen hP hD hS hl)
theorem x_fmul {X : qX} {M : qM} (C : qC X M) {pc : Nat} {loc : List (Nat × Value)} {st : List Value} {h : qH} {x y : UInt32} (hn : n32B (FP.fmul x y) = true) (hd : decode M.2.1 pc = .ok (.fmul, 1)) (kk : Ex X M (pc + 1) loc (.float (FP.fmul x y) :: st) h) : Ex X M pc loc (.float y :: .float x :: st) h := by
  obtain ⟨p, l, e, s, m, args, below, meth, c, ad, cy, D, A, cells, slots, len, Q⟩ := X
  obtain ⟨hx, hb, hml, hown, hts, hA, hG, hce, hso⟩ := C
  intro H locs ls hlen hP hD hS hl
  exact lv_fmul hx hb hd (n32_of hn) (kk H locs ls hlen hP hD hS hl)
theorem x_fdiv {X : qX} {M : qM} (C : qC X M) {pc : Nat} {loc : List (Nat × Value)} {st : List Value} {h : qH} {x y : UInt32} (hn : n32B (FP.fdiv x y) = true) (hd : decode M.2.1 pc = .ok (.fdiv, 1)) (kk : Ex X M (pc + 1) loc (.float (FP.fdiv x y) :: st) h) : Ex X M pc loc (.float y :: .float x :: st) h := by
  obtain ⟨p, l, e, s, m, args, below, meth, c, ad, cy, D, A, cells, slots, len, Q⟩ := X
  obtain ⟨hx, hb, hml, hown, hts, hA, hG, hce, hso⟩ := C
  intro H locs ls hlen hP hD hS hl
  exact lv_fdiv hx hb hd (n32_of hn) (kk H locs ls hlen hP hD hS hl)
theorem x_fcmp {X : qX} {M : qM} (C : qC X M) {pc : Nat} {loc : List (Nat × Value)} {st : List Value} {h : qH} {x y : UInt32} {op : CmpOp} (hd : decode M.2.1 pc = .ok (.fcmp op, 1)) (kk : Ex X M (pc + 1) loc (.int (Op.cmpValue (FP.fcmp x y) op) :: st) h) : Ex X M pc loc (.float y :: .float x :: st) h := by
  obtain ⟨p, l, e, s, m, args, below, meth, c, ad, cy, D, A, cells, slots, len, Q⟩ := X
  obtain ⟨hx, hb, hml, hown, hts, hA, hG, hce, hso⟩ := C
  intro H locs ls hlen hP hD hS hl
  exact lv_fcmp hx hb hd (kk H locs ls hlen hP hD hS hl)
theorem x_i2f {X : qX} {M : qM} (C : qC X M) {pc : Nat} {loc : List (Nat × Value)} {st : List Value} {h : qH} {x : Int32} (hd : decode M.2.1 pc = .ok (.i2f, 1)) (kk : Ex X M (pc + 1) loc (.float (FP.i2f x) :: st) h) : Ex X M pc loc (.int x :: st) h := by
  obtain ⟨p, l, e, s, m, args, below, meth, c, ad, cy, D, A, cells, slots, len, Q⟩ := X
  obtain ⟨hx, hb, hml, hown, hts, hA, hG, hce, hso⟩ := C
  intro H locs ls hlen hP hD hS hl
  exact lv_i2f hx hb hd (kk H locs ls hlen hP hD hS hl)
theorem x_f2i {X : qX} {M : qM} (C : qC X M) {pc : Nat} {loc : List (Nat × Value)} {st : List Value} {h : qH} {x : UInt32} (hd : decode M.2.1 pc = .ok (.f2i, 1)) (kk : Ex X M (pc + 1) loc (.int (FP.f2i x) :: st) h) : Ex X M pc loc (.float x :: st) h := by
  obtain ⟨p, l, e, s, m, args, below, meth, c, ad, cy, D, A, cells, slots, len, Q⟩ := X
  obtain ⟨hx, hb, hml, hown, hts, hA, hG, hce, hso⟩ := C
  intro H locs ls hlen hP hD hS hl
  exact lv_f2i hx hb hd (kk H locs ls hlen hP hD hS hl)
theorem x_fload_n {X : qX} {M : qM} (C : qC X M) {pc : Nat} {loc : List (Nat × Value)} {st : List Value} {h : qH} {k : Fin 4} {x : UInt32} (hd : decode M.2.1 pc = .ok (.fload_n k, 1)) (hi : loc.lookup (k : Nat) = some (.float x)) (kk : Ex X M (pc + 1) loc (.float x :: st) h) : Ex X M pc loc st h := by
  obtain ⟨p, l, e, s, m, args, below, meth, c, ad, cy, D, A, cells, slots, len, Q⟩ := X
  obtain ⟨hx, hb, hml, hown, hts, hA, hG, hce, hso⟩ := C
  intro H locs ls hlen hP hD hS hl
  exact lv_fload_n hx hb hd rfl (q_lat hl hi) (kk H locs ls hlen hP hD hS hl)
theorem x_fstore_n {X : qX} {M : qM} (C : qC X M) {pc : Nat} {loc : List (Nat × Value)} {st : List Value} {h : qH} {k : Fin 4} {x : UInt32} (hd : decode M.2.1 pc = .ok (.fstore_n k, 1)) (hn : (k : Nat) < M.2.2.1) (loc2 : List (Nat × Value)) (h2 : q_set loc (k : Nat) (.float x) = loc2) (kk : Ex X M (pc + 1) loc2 st h) : Ex X M pc loc (.float x :: st) h := by
  obtain ⟨p, l, e, s, m, args, below, meth, c, ad, cy, D, A, cells, slots, len, Q⟩ := X
  obtain ⟨hx, hb, hml, hown, hts, hA, hG, hce, hso⟩ := C
  intro H locs ls hlen hP hD hS hl
  subst h2
  exact lv_fstore_n hx hb hd rfl hl hn (q_set_map ad loc (k : Nat) (.float x)) (fun ls hl => kk H locs ls hlen hP hD hS hl)
theorem x_ldcf {X : qX} {M : qM} (C : qC X M) {pc : Nat} {loc : List (Nat × Value)} {st : List Value} {h : qH} {i : Nat} {v : UInt32} (hd : decode M.2.1 pc = .ok (.ldc i, 2)) (hc : Cond.constantFloat M.1.cls i v ∈ qT) (kk : Ex X M (pc + 2) loc (.float v :: st) h) : Ex X M pc loc st h := by
  obtain ⟨p, l, e, s, m, args, below, meth, c, ad, cy, D, A, cells, slots, len, Q⟩ := X
  obtain ⟨hx, hb, hml, hown, hts, hA, hG, hce, hso⟩ := C
  intro H locs ls hlen hP hD hS hl
  exact lv_ldcf hx hb hown (hts _ hc) hd (kk H locs ls hlen hP hD hS hl)
section LDCWF
variable {p : Program} {l : Launch} {e : Env} {R : Room} {s : State} {m : MethodId} {args : Array Value} {below : List Frame} {meth : Method} {c : Code} {T : State} {locs : List Loc} {cells slots : Nat}
theorem q_ldcwF (X : Stand p l e R s m args below meth c T locs cells slots) (hexec : p.tables.exec = Jvm.exec) {own : String} {index : Nat} {v : UInt32} (hown : s.vm.findClass own = some m.cls)
    (hconst : (Cond.constantFloat own index v).before args s = true) {g : JFrame} (hg : g.method = m) (hdg : decode c.code g.pc = .ok (.ldc_w index, 3)) :
    ∀ target, Steps p.tables e below (T.setTop { g with pc := g.pc + 3, stack := .float v :: g.stack }) target → Steps p.tables e below (T.setTop g) target := by
  obtain ⟨k, cf, hk, hcf, hcp⟩ := Cond.constantFloat_spec hown hconst
  obtain ⟨k', hk', he⟩ := X.warmed.alike.2.2 _ _ hk
  intro target hrest
  subst hg
  jvm_step X.here [hexec, hdg, ldc_w.wp_float (s := T) (f := g) X.here.top hk' (by rw [he]; exact hcf) hcp]
  exact hrest
end LDCWF
theorem x_ldcwf {X : qX} {M : qM} (C : qC X M) {pc : Nat} {loc : List (Nat × Value)} {st : List Value} {h : qH} {i : Nat} {v : UInt32} (hd : decode M.2.1 pc = .ok (.ldc_w i, 3)) (hc : Cond.constantFloat M.1.cls i v ∈ qT) (kk : Ex X M (pc + 3) loc (.float v :: st) h) : Ex X M pc loc st h := by
  obtain ⟨p, l, e, s, m, args, below, meth, c, ad, cy, D, A, cells, slots, len, Q⟩ := X
  obtain ⟨hx, hb, hml, hown, hts, hA, hG, hce, hso⟩ := C
  intro H locs ls hlen hP hD hS hl
  intro T hT Y
  obtain ⟨t, a, b⟩ := kk H locs ls hlen hP hD hS hl T hT Y
  exact ⟨t, q_ldcwF Y hx hown (hts _ hc) (g := F0 m pc ls (st.map (q_v ad))) rfl (by rw [hb]; exact hd) t a, b⟩
abbrev yRaw : MethodName := ⟨"java/lang/Float", "floatToRawIntBits", "(F)I"⟩
theorem lkF_74 : Cond.methodLink RJxf58ca 74 yRaw ∈ qT := qT_in 1113 (by decide +kernel) rfl
theorem ntRaw : Cond.native yRaw ∈ qT := qT_in 1115 (by decide +kernel) rfl
theorem mtRaw : Cond.static yRaw ∈ qT := qT_in 1114 (by decide +kernel) rfl
theorem inRaw : Cond.initialized "java/lang/Float" ∈ qT := qT_in 69 (by decide +kernel) rfl
theorem x_raw {X : qX} {M : qM} (C : qC X M) {pc : Nat} {loc : List (Nat × Value)} {st : List Value} {h : qH} {idx : Nat} {b : UInt32} (hlk : Cond.methodLink M.1.cls idx yRaw ∈ qT) (hR : 1 ≤ M.2.2.2.2.frames ∧ 8 + 15 ≤ M.2.2.2.2.locals) (hw : (st.map fun v => v.category).sum ≤ 8) (hd : decode M.2.1 pc = .ok (.invokestatic idx, 3)) (kk : Ex X M (pc + 3) loc (.int b.toInt32 :: st) h) : Ex X M pc loc (.float b :: st) h := by
  obtain ⟨p, l, e, s, m, args, below, meth, c, ad, cy, D, A, cells, slots, len, Q⟩ := X
  obtain ⟨hx, hb, hml, hown, hts, hA, hG, hce, hso⟩ := C
  intro H locs ls hlen hP hD hS hl
  exact vn_f2i hx hb (hml.trans hl.1.symm) hown (hts _ hlk) (hts _ ntRaw) (hts _ mtRaw) (hts _ inRaw) hR.1 (q_cats (n := 15) hw hR.2) hd (kk H locs ls hlen hP hD hS hl)
abbrev MJxf58ca_isNaN_12338 : qM := (yJxf58ca_isNaN_12338, cJxf58ca_isNaN_12338, 1, (some .boolean), { frames := 0, cells := 0, slots := 0, locals := 0 })
theorem miJxf58ca_isNaN_12338 : qIn MJxf58ca_isNaN_12338 := ⟨qT_in 1112 (by decide +kernel) rfl, qT_in 69 (by decide +kernel) rfl, ⟨by decide +kernel, by decide +kernel⟩, rfl, rfl⟩
theorem mtJxf58ca_isNaN_12338 : Cond.static yJxf58ca_isNaN_12338 ∈ qT := qT_in 1111 (by decide +kernel) rfl
theorem maJxf58ca_isNaN_12338 : qAr MJxf58ca_isNaN_12338 1 := by unfold qAr; decide +kernel
abbrev MJxf58ca_floatToIntBits_5c35a : qM := (yJxf58ca_floatToIntBits_5c35a, cJxf58ca_floatToIntBits_5c35a, 1, (some .int), { frames := 1, cells := 0, slots := 0, locals := 26 })
theorem miJxf58ca_floatToIntBits_5c35a : qIn MJxf58ca_floatToIntBits_5c35a := ⟨qT_in 1109 (by decide +kernel) rfl, qT_in 69 (by decide +kernel) rfl, ⟨by decide +kernel, by decide +kernel⟩, rfl, rfl⟩
theorem mtJxf58ca_floatToIntBits_5c35a : Cond.static yJxf58ca_floatToIntBits_5c35a ∈ qT := qT_in 1108 (by decide +kernel) rfl
theorem maJxf58ca_floatToIntBits_5c35a : qAr MJxf58ca_floatToIntBits_5c35a 1 := by unfold qAr; decide +kernel
theorem lkF_59 : Cond.methodLink RJxf58ca 59 yJxf58ca_isNaN_12338 ∈ qT := qT_in 1110 (by decide +kernel) rfl
theorem lkX6_238 : Cond.methodLink RX6 238 yJxf58ca_floatToIntBits_5c35a ∈ qT := qT_in 1107 (by decide +kernel) rfl
theorem Met_ofWF {y : MethodName} {l : Launch} {ws ws' : List Cond} {rm : Room} {Pc : Array Value → State → Prop} {Qc : Array Value → State → Outcome → State → Prop} {mc ms : Nat} {free : Addr → Prop} {cc : ByteArray} {maxL : Nat} {ret : Option FieldType}
    (hy : plainFor y = true) (hw : ws = Cond.code y cc maxL ret :: ws')
    (body : ∀ p e s m args below meth c s₁, BodyLoose p l y (headSpec ws rm) cc maxL ret e s m args below meth c s₁ → c.maxLocals = maxL → Pc args s →
      W p l e (headSpec ws rm).room s m args below meth c s.heap [] 0 0 (MQ below Qc args s mc ms free) (entryFrame m args maxL)) : Met l y ws rm Pc Qc mc ms free := by
  refine MetFree.of_bodySF (code := cc) (maxLocals := maxL) (ret := ret) hy ?_ ?_
  · intro args s m h hn
    obtain ⟨meth, c, h1, h2, h3, h4, h5, h6, -, -⟩ := Cond.code_spec hn (atoms_spec (ws := ws) h _ (by rw [hw]; exact List.mem_cons_self))
    exact ⟨meth, c, h1, h2, h3, h4, h5, h6⟩
  · intro p e s m args below meth c s₁ B hml hP _
    have hh0 : s₁.heap = s.heap := by rw [B.state]; rfl
    obtain ⟨t, a1, o, b1, b2, b3⟩ := body p e s m args below meth c s₁ B hml hP s₁ hh0 (Stand.of_body B)
    exact ⟨t, o, a1, b1, b2, ⟨b3.1, b3.2⟩⟩
theorem ok_ofF {M : qM} {args : List Value} {h : qH} {r : Option Value} {h' : qH} (hy : plainFor M.1 = true) (hn : (lg_sl args).length ≤ M.2.2.1)
    (body : ∀ X : qX, qC X M → qEnd X M r h' → Ex X M 0 (lv_args 0 args) [] h) : Ok M args h r h' := by
  intro l ad cy D sz
  refine Met_ofWF (cc := M.2.1) (maxL := M.2.2.1) (ret := M.2.2.2.1) hy rfl ?_
  intro p e s m args2 below meth c s₁ B hml hv
  obtain ⟨rfl, hsz, hP, hD0, hG⟩ := hv
  have hx := B.exec
  have hb := B.bytes
  have hr := B.returns
  have hts := atoms_spec (ws := qws M) B.pre
  have hown : s.vm.findClass M.1.cls = some m.cls := findClass_of_methodNamed B.named
  have hlocks := B.notSynchronized
  subst hsz
  have hD := hD0.self (sz := s.heap.size)
  have hS : va_S (va_A (q_w ad cy h) s.heap.size) s.heap s.heap [] := va_S.rf
  have hl := lv_entry (args.map (q_v ad)) (n := M.2.2.1) (by rw [q_sl_len]; exact hn)
  rw [q_args] at hl
  rw [lg_entry_eq]
  refine body (p, l, e, s, m, _, below, meth, c, ad, cy, D, va_A (q_w ad cy h) s.heap.size, 0, 0, h.length, _) ⟨hx, hb, hml, hown, fun w hw => hts w (List.mem_cons_of_mem _ hw), fun q hq => Or.inr hq, hG, Nat.zero_le _, Nat.zero_le _⟩ ⟨?_, ?_, ?_⟩ s.heap [] _ rfl hP hD hS hl
  · intro pc loc v ty hd hty hnar hrv H locs ls hlen hP hD hS hl
    exact W.zret hx hb (hr.trans hty) hnar (fun t ht hW => ⟨⟨by rw [hrv]; rfl, hlen, by rw [ht]; exact hP⟩, hS.F ht⟩) hS.2.2 hd hlocks
  · intro pc loc hd hty hrv H locs ls hlen hP hD hS hl
    exact W.vret hx hb (hr.trans hty) (fun t ht hW => ⟨⟨by rw [hrv]; rfl, hlen, by rw [ht]; exact hP⟩, hS.F ht⟩) hS.2.2 hd hlocks
  · intro pc loc v ty hd hty hrt hv hrv H locs ls hlen hP hD hS hl
    exact W.aret (v := q_v ad v) hx hb (hr.trans hty) hrt (hv.elim (fun e => Or.inl (by rw [e]; rfl)) (fun ⟨a, e⟩ => Or.inr ⟨ad a, by rw [e]; rfl⟩)) (fun t ht hW => ⟨⟨by rw [hrv]; rfl, hlen, by rw [ht]; exact hP⟩, hS.F ht⟩) hS.2.2 hd hlocks
def oneF : UInt32 := FP.fconst1
def shE (fr : UInt32) (ex : Int32) : Option Int32 := if n32B (FP.fsub fr FP.fconst1) = true ∧ n32B (FP.fmul (FP.fsub fr FP.fconst1) 1258291200) = true then some ((ex <<< (nI 23 &&& 31)) + FP.f2i (FP.fmul (FP.fsub fr FP.fconst1) 1258291200)) else none
def shL : Nat → UInt32 → Int32 → Option Int32
  | 0, fr, ex => shE fr ex
  | m + 1, fr, ex => if 0 ≤ Op.cmpValue (FP.fcmp fr FP.fconst1) .g then shE fr ex else if n32B (FP.fmul fr FP.fconst2) = true then shL m (FP.fmul fr FP.fconst2) (ex + Int32.ofInt (-1)) else none
def shC (f : UInt32) : Option Int32 := if 0 < Op.cmpValue (FP.fcmp f FP.fconst0) .g then shL 5 f (nI 127) else some 0
def shV (k : Nat) : UInt32 := FP.fdiv (FP.i2f (nI k)) 1103626240
theorem share_all : ∀ k : Fin 26, n32B (shV k.1) = true ∧ shC (shV k.1) = some (shV k.1).toInt32 ∧ Op.cmpValue (FP.fcmp (shV k.1) (shV k.1)) .l = 0 := by decide +kernel
set_option maxHeartbeats 4000000 in
set_option maxRecDepth 100000 in
theorem okJxf58ca_isNaN_12338 {x : UInt32} (hx : Op.cmpValue (FP.fcmp x x) .l = 0) (h : qH) : Ok MJxf58ca_isNaN_12338 [.float x] h (some (.int (nI 0))) h := by
  refine ok_ofF (by decide +kernel) (Nat.le_of_ble_eq_true rfl) ?_
  intro X C E
  show Ex X MJxf58ca_isNaN_12338 0 [(0, .float x)] [] h
  refine x_fload_n C dJxf58ca_isNaN_12338_0 rfl ?_
  refine x_fload_n C dJxf58ca_isNaN_12338_1 rfl ?_
  refine x_fcmp C dJxf58ca_isNaN_12338_2 ?_
  refine x_if_eq C 10 dJxf58ca_isNaN_12338_3 (by decide) (fun c3 => ?_) (fun c3 => ?_)
  · refine x_iconst C (v := nI 0) dJxf58ca_isNaN_12338_10 (by decide +kernel) ?_
    exact x_iret E .boolean dJxf58ca_isNaN_12338_11 rfl rfl rfl rfl
  · exact absurd hx c3
set_option maxHeartbeats 4000000 in
set_option maxRecDepth 100000 in
theorem okJxf58ca_floatToIntBits_5c35a {x : UInt32} (hx : Op.cmpValue (FP.fcmp x x) .l = 0) (h : qH) : Ok MJxf58ca_floatToIntBits_5c35a [.float x] h (some (.int (x.toInt32))) h := by
  refine ok_ofF (by decide +kernel) (Nat.le_of_ble_eq_true rfl) ?_
  intro X C E
  show Ex X MJxf58ca_floatToIntBits_5c35a 0 [(0, .float x)] [] h
  refine x_fload_n C dJxf58ca_floatToIntBits_5c35a_0 rfl ?_
  refine x_callS1i C (okJxf58ca_isNaN_12338 hx _) lkF_59 miJxf58ca_isNaN_12338 mtJxf58ca_isNaN_12338 maJxf58ca_isNaN_12338 ⟨Nat.le_of_ble_eq_true rfl, Nat.le_of_ble_eq_true rfl⟩ (Nat.le_of_ble_eq_true rfl) dJxf58ca_floatToIntBits_5c35a_1 ?_
  refine x_if_neN C 12 dJxf58ca_floatToIntBits_5c35a_4 (by decide) (by decide) (fun c4 => ?_) (fun c4 => ?_)
  · exact absurd rfl c4
  · refine x_fload_n C dJxf58ca_floatToIntBits_5c35a_7 rfl ?_
    refine x_raw C lkF_74 ⟨Nat.le_of_ble_eq_true rfl, Nat.le_of_ble_eq_true rfl⟩ (Nat.le_of_ble_eq_true rfl) dJxf58ca_floatToIntBits_5c35a_8 ?_
    exact x_iret E .int dJxf58ca_floatToIntBits_5c35a_11 rfl rfl rfl rfl
set_option maxHeartbeats 4000000 in
set_option maxRecDepth 100000 in
theorem okX5_bitsOfShare {x : UInt32} {v : Int32} (hx : shC x = some v) (h : qH) : Ok MX5_bitsOfShare [.float x] h (some (.int (v))) h := by
  refine ok_of (by decide +kernel) (Nat.zero_le _) (Nat.le_of_ble_eq_true rfl) ?_
  intro X C E
  show Ex X MX5_bitsOfShare 0 [(0, .float x)] [] h
  have K39 : ∀ (fr : UInt32) (ex i : Int32), shE fr ex = some v → Ex X MX5_bitsOfShare 39 [(3, .int i), (2, .int ex), (1, .float fr), (0, .float x)] [] h := by
    intro fr ex i hE
    unfold shE at hE
    split at hE
    · rename_i hn
      cases hE
      refine x_iload_n C dX5_bitsOfShare_39 rfl ?_
      refine x_bipush C (v := nI 23) dX5_bitsOfShare_40 (by decide +kernel) ?_
      refine x_ishl C dX5_bitsOfShare_42 ?_
      refine x_fload_n C dX5_bitsOfShare_43 rfl ?_
      refine x_fconst1 C dX5_bitsOfShare_44 ?_
      refine x_fsub C hn.1 dX5_bitsOfShare_45 ?_
      refine x_ldcwf C dX5_bitsOfShare_46 lcX5_285 ?_
      refine x_fmul C hn.2 dX5_bitsOfShare_49 ?_
      refine x_f2i C dX5_bitsOfShare_50 ?_
      refine x_iadd C dX5_bitsOfShare_51 ?_
      exact x_iret E .int dX5_bitsOfShare_52 rfl rfl rfl rfl
    · cases hE
  have L15 : ∀ m (i : Nat) (fr : UInt32) (ex : Int32), i + m = 5 → shL m fr ex = some v → Ex X MX5_bitsOfShare 15 [(3, .int (nI i)), (2, .int ex), (1, .float fr), (0, .float x)] [] h := by
    intro m
    induction m with
    | zero =>
      intro i fr ex hi hE
      refine x_iload_n C dX5_bitsOfShare_15 rfl ?_
      refine x_iconst C (v := nI 5) dX5_bitsOfShare_16 (by decide +kernel) ?_
      refine x_icmp_geN C 39 dX5_bitsOfShare_17 (by decide) (by omega) (by omega) (fun c17 => ?_) (fun c17 => ?_)
      · exact K39 fr ex _ hE
      · exact absurd c17 (by omega)
    | succ m ih =>
      intro i fr ex hi hE
      refine x_iload_n C dX5_bitsOfShare_15 rfl ?_
      refine x_iconst C (v := nI 5) dX5_bitsOfShare_16 (by decide +kernel) ?_
      refine x_icmp_geN C 39 dX5_bitsOfShare_17 (by decide) (by omega) (by omega) (fun c17 => ?_) (fun c17 => ?_)
      · exact absurd c17 (by omega)
      · refine x_fload_n C dX5_bitsOfShare_20 rfl ?_
        refine x_fconst1 C dX5_bitsOfShare_21 ?_
        refine x_fcmp C dX5_bitsOfShare_22 ?_
        rw [shL] at hE
        refine x_if_ge C 39 dX5_bitsOfShare_23 (by decide) (fun c23 => ?_) (fun c23 => ?_)
        · rw [if_pos c23] at hE
          exact K39 fr ex _ hE
        · rw [if_neg c23] at hE
          split at hE
          · rename_i hn
            refine x_fload_n C dX5_bitsOfShare_26 rfl ?_
            refine x_fconst2 C dX5_bitsOfShare_27 ?_
            refine x_fmul C hn dX5_bitsOfShare_28 ?_
            refine x_fstore_n C dX5_bitsOfShare_29 (by decide) [(1, _), (3, _), (2, _), (0, _)] rfl ?_
            refine x_iinc C _ dX5_bitsOfShare_30 rfl rfl (by decide) [(2, _), (1, _), (3, _), (0, _)] rfl ?_
            refine x_iinc C _ dX5_bitsOfShare_33 rfl (q_inc _) (by decide) [(3, _), (2, _), (1, _), (0, _)] rfl ?_
            refine x_goto C 15 dX5_bitsOfShare_36 (by decide) ?_
            exact ih (i + 1) _ _ (by omega) hE
          · cases hE
  unfold shC at hx
  refine x_fload_n C dX5_bitsOfShare_0 rfl ?_
  refine x_fconst0 C dX5_bitsOfShare_1 ?_
  refine x_fcmp C dX5_bitsOfShare_2 ?_
  refine x_if_gt C 8 dX5_bitsOfShare_3 (by decide) (fun c3 => ?_) (fun c3 => ?_)
  · rw [if_pos c3] at hx
    refine x_fload_n C dX5_bitsOfShare_8 rfl ?_
    refine x_fstore_n C dX5_bitsOfShare_9 (by decide) [(1, _), (0, _)] rfl ?_
    refine x_bipush C (v := nI 127) dX5_bitsOfShare_10 (by decide +kernel) ?_
    refine x_istore_n C dX5_bitsOfShare_12 (by decide) [(2, _), (1, _), (0, _)] rfl ?_
    refine x_iconst C (v := nI 0) dX5_bitsOfShare_13 (by decide +kernel) ?_
    refine x_istore_n C dX5_bitsOfShare_14 (by decide) [(3, _), (2, _), (1, _), (0, _)] rfl ?_
    exact L15 5 0 x (nI 127) (by omega) hx
  · rw [if_neg c3] at hx
    cases hx
    refine x_iconst C (v := nI 0) dX5_bitsOfShare_6 (by decide +kernel) ?_
    exact x_iret E .int dX5_bitsOfShare_7 rfl rfl rfl rfl
theorem share_k {k : Nat} (hk : k ≤ 25) : n32B (shV k) = true ∧ shC (shV k) = some (shV k).toInt32 ∧ Op.cmpValue (FP.fcmp (shV k) (shV k)) .l = 0 := share_all ⟨k, by omega⟩
set_option maxHeartbeats 4000000 in
set_option maxRecDepth 100000 in
theorem okX5_share {a b c d : qP} {Hs : qHs} {T : qTs} {L : qLs} {S : qSs} {V : qVs} {ms : qms} {mr : qmr} {mm : qmm} {ml : qml} {mt : qmt} (ha : Bd a.1) : Ok MX5_share [.ref 0] (HH (a, b, c, d) Hs T L S V ms mr mm ml mt) (some (.int (shV (cnt (covR a.1 25) 25)).toInt32)) (HH (a, b, c, d) Hs T L S V ms mr mm ml mt) := by
  refine ok_of (by decide +kernel) (Nat.zero_le _) (Nat.le_of_ble_eq_true rfl) ?_
  intro X C E
  show Ex X MX5_share 0 [(0, .ref 0)] [] (HH (a, b, c, d) Hs T L S V ms mr mm ml mt)
  have hs := share_k (cnt_le (covR a.1 25) 25)
  generalize hce : cnt (covR a.1 25) 25 = k at hs E
  have hm : Ok MX5_bitsOf [.int (mask (covR a.1 25))] (HH (a, b, c, d) Hs T L S V ms mr mm ml mt) (some (.int (nI k))) (HH (a, b, c, d) Hs T L S V ms mr mm ml mt) := by rw [← hce]; exact okX5_bitsOf _ _
  refine x_aload_n C dX5_share_0 rfl ?_
  refine x_getfield C qk5 0 (by decide) lfX5_12 dX5_share_1 rfl rfl ?_
  refine x_callV0i C (okX3_covered PosA_now ha.1) lkX5_234 miX3_covered msX3_covered maX3_covered ⟨Nat.le_of_ble_eq_true rfl, Nat.le_of_ble_eq_true rfl⟩ (Nat.le_of_ble_eq_true rfl) rfl rfl dX5_share_4 ?_
  refine x_callS1i C hm lkX5_111 miX5_bitsOf mtX5_bitsOf maX5_bitsOf ⟨Nat.le_of_ble_eq_true rfl, Nat.le_of_ble_eq_true rfl⟩ (Nat.le_of_ble_eq_true rfl) dX5_share_7 ?_
  refine x_i2f C dX5_share_10 ?_
  refine x_fstore_n C dX5_share_11 (by decide) [(1, _), (0, _)] rfl ?_
  refine x_fload_n C dX5_share_12 rfl ?_
  refine x_ldcwf C dX5_share_13 lcX5_259 ?_
  refine x_fdiv C hs.1 dX5_share_16 ?_
  refine x_callS1i C (okX5_bitsOfShare (x := shV k) hs.2.1 _) lkX5_260 miX5_bitsOfShare mtX5_bitsOfShare maX5_bitsOfShare ⟨Nat.le_of_ble_eq_true rfl, Nat.le_of_ble_eq_true rfl⟩ (Nat.le_of_ble_eq_true rfl) dX5_share_17 ?_
  exact x_iret E .int dX5_share_20 rfl rfl rfl rfl
set_option maxHeartbeats 4000000 in
set_option maxRecDepth 100000 in
theorem okX6_share {P : qPs} {Hs : qHs} {T : qTs} {L : qLs} {S : qSs} {V : qVs} {ml : qml} {mt : qmt} {bf sv past : Nat → Nat} {isv : Bool} {pm : Nat} {mm : qmm} {mr : qmr} {a : qP} (ha : ∀ i, a.1 i < 8) : Ok MX6_share [.ref 40] (HH P Hs T L S V (sF a, bf, sv, past, isv, pm) mr mm ml mt) (some (.int (shV (cnt (covR a.1 25) 25)).toInt32)) (HH P Hs T L S V (sF a, bf, sv, past, isv, pm) mr mm ml mt) := by
  refine ok_of (by decide +kernel) (Nat.zero_le _) (Nat.le_of_ble_eq_true rfl) ?_
  intro X C E
  show Ex X MX6_share 0 [(0, .ref 40)] [] (HH P Hs T L S V (sF a, bf, sv, past, isv, pm) mr mm ml mt)
  have hs := share_k (cnt_le (covR a.1 25) 25)
  have hm := okX6_attacked (P := P) (Hs := Hs) (T := T) (L := L) (S := S) (V := V) (ml := ml) (mt := mt) (bf := bf) (sv := sv) (past := past) (isv := isv) (pm := pm) (mm := mm) (mr := mr) ha
  generalize cnt (covR a.1 25) 25 = k at hs E hm
  refine x_aload_n C dX6_share_0 rfl ?_
  refine x_callV0i C hm lkX6_234 miX6_attacked msX6_attacked maX6_attacked ⟨Nat.le_of_ble_eq_true rfl, Nat.le_of_ble_eq_true rfl⟩ (Nat.le_of_ble_eq_true rfl) rfl rfl dX6_share_1 ?_
  refine x_i2f C dX6_share_4 ?_
  refine x_ldcf C dX6_share_5 lcX6_237 ?_
  refine x_fdiv C hs.1 dX6_share_7 ?_
  refine x_callS1i C (okJxf58ca_floatToIntBits_5c35a (x := shV k) hs.2.2 _) lkX6_238 miJxf58ca_floatToIntBits_5c35a mtJxf58ca_floatToIntBits_5c35a maJxf58ca_floatToIntBits_5c35a ⟨Nat.le_of_ble_eq_true rfl, Nat.le_of_ble_eq_true rfl⟩ (Nat.le_of_ble_eq_true rfl) dX6_share_8 ?_
  exact x_iret E .int dX6_share_11 rfl rfl rfl rfl
