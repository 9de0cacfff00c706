/-! the reference: lists of moves -/
def preRow (S : Nat → Nat → Bool) (f : Nat) : Nat → List Nat
  | 0 => []
  | t + 1 => preRow S f t ++ (if S f t = true then [100 * f + t] else [])
def preL (S : Nat → Nat → Bool) : Nat → List Nat
  | 0 => []
  | f + 1 => preL S f ++ preRow S f 25
def wl (g : Nat → Nat) (l : List Nat) : Nat → Nat := fun k => if k < l.length then l.getD k 0 else g k
theorem wl_nil (g : Nat → Nat) : wl g [] = g := by funext k; unfold wl; rw [if_neg (by simp)]
theorem wl_app (g : Nat → Nat) (l : List Nat) (v : Nat) : up (wl g l) l.length v = wl g (l ++ [v]) := by
  funext k
  unfold up wl
  rw [List.length_append, List.length_singleton]
  by_cases e : k = l.length
  · subst e
    rw [if_pos rfl, if_pos (by omega), List.getD_eq_getElem?_getD, List.getElem?_append_right (Nat.le_refl _), Nat.sub_self]
    rfl
  · rw [if_neg e]
    by_cases e2 : k < l.length
    · rw [if_pos e2, if_pos (by omega), List.getD_eq_getElem?_getD, List.getD_eq_getElem?_getD, List.getElem?_append_left e2]
    · rw [if_neg e2, if_neg (by omega)]
def loRow (U : Nat → Nat → Bool) (b : Nat → Nat) (f : Nat) (lo : Int32) : Nat → Int32
  | 0 => lo
  | t + 1 => if U f t = true then low (escP (aft b f t)) 25 0 else loRow U b f lo t
def loAll (U : Nat → Nat → Bool) (b : Nat → Nat) (lo : Int32) : Nat → Int32
  | 0 => lo
  | f + 1 => loRow U b f (loAll U b lo f) 25
def selB (b : Nat → Nat) (q : Nat) (f t : Nat) : Bool := movP b f t && decide (kindB (aft b f t) = q)
def selC (S : Nat → Nat → Bool) (m f t : Nat) : Bool := decide (f = m) && S f t
def wNo (b : Nat → Nat) : Nat := cnt (fun f => isW (b f)) 25
theorem preRow_le (S : Nat → Nat → Bool) (f : Nat) : ∀ t, (preRow S f t).length ≤ t
  | 0 => by simp [preRow]
  | t + 1 => by
    have := preRow_le S f t
    rw [preRow, List.length_append]
    split <;> simp <;> omega
theorem preRow_nil {S : Nat → Nat → Bool} {f : Nat} (h : ∀ t, S f t = false) : ∀ t, preRow S f t = []
  | 0 => rfl
  | t + 1 => by rw [preRow, preRow_nil h t, if_neg (by rw [h t]; decide)]; rfl
theorem preL_le {b : Nat → Nat} {S : Nat → Nat → Bool} (hS : ∀ f t, S f t = true → isW (b f) = true) : ∀ f, (preL S f).length ≤ 25 * cnt (fun f => isW (b f)) f
  | 0 => by simp [preL]
  | f + 1 => by
    have ih := preL_le hS f
    rw [preL, List.length_append, cnt]
    by_cases h : isW (b f) = true
    · have := preRow_le S f 25
      rw [if_pos h]
      omega
    · rw [if_neg h, preRow_nil (fun t => by cases e : S f t; rfl; exact absurd (hS f t e) h)]
      simp
      omega
theorem cnt_mono (p : Nat → Bool) : ∀ {n m : Nat}, n ≤ m → cnt p n ≤ cnt p m := by
  intro n m h
  induction h with
  | refl => exact Nat.le_refl _
  | step h ih => rw [cnt]; omega
theorem room {b : Nat → Nat} {S : Nat → Nat → Bool} (hS : ∀ f t, S f t = true → isW (b f) = true) (hw : wNo b ≤ 12) {f t : Nat} (hf : f < 25) (ht : t < 25) (h : S f t = true) : (preL S f ++ preRow S f t).length < 300 := by
  have h1 := preL_le hS f
  have h2 := preRow_le S f t
  have h3 := cnt_mono (fun f => isW (b f)) (show f + 1 ≤ 25 by omega)
  have h4 := hS f t h
  rw [cnt, if_pos h4] at h3
  rw [List.length_append]
  unfold wNo at hw
  omega
theorem mov_w {b : Nat → Nat} {f t : Nat} (h : movP b f t = true) : isW (b f) = true := by
  unfold movP at h
  by_cases hw : isW (b f) = true
  · exact hw
  · rw [if_neg hw] at h; cases h
theorem sel_w {b : Nat → Nat} {q f t : Nat} (h : selB b q f t = true) : isW (b f) = true := by
  unfold selB at h
  rw [Bool.and_eq_true] at h
  exact mov_w h.1
theorem selC_w {b : Nat → Nat} {S : Nat → Nat → Bool} (hS : ∀ f t, S f t = true → isW (b f) = true) {m f t : Nat} (h : selC S m f t = true) : isW (b f) = true := by
  unfold selC at h
  rw [Bool.and_eq_true] at h
  exact hS f t h.2
set_option maxHeartbeats 4000000 in
set_option maxRecDepth 100000 in
theorem okX6_tells_a {P : qPs} {Hs : qHs} {T : qTs} {L : qLs} {S : qSs} {V : qVs} {ml : qml} {mt : qmt} {s bf sv past : Nat → Nat} {isv : Bool} {pm : Nat} {r1 d1 it lo : Int32} {mv ks tn : Nat → Nat} {mn : Nat} {b : Nat → Nat} (hb : ∀ i, b i < 8) (hsb : Ag s b) (hu : Uq b 7) (hw : wNo b ≤ 12) : Ok MX6_tells [.ref 40, .int (-1), .int (-1)] (HH P Hs T L S V (s, bf, sv, past, isv, pm) (r1, d1, it, lo) (mv, mn, ks, tn) ml mt) (none) (HH P Hs T L S V (s, bf, sv, past, isv, pm) (r1, d1, it, loAll (fun _ _ => false) b lo 25) (wl mv (preL (movP b) 25), (preL (movP b) 25).length, ks, tn) ml mt) := by
  refine ok_of (by decide +kernel) (Nat.zero_le _) (Nat.le_of_ble_eq_true rfl) ?_
  intro X C E
  show Ex X MX6_tells 0 [(0, .ref 40), (1, .int (-1)), (2, .int (-1))] [] (HH P Hs T L S V (s, bf, sv, past, isv, pm) (r1, d1, it, lo) (mv, mn, ks, tn) ml mt)
  obtain ⟨S0, hSe⟩ : ∃ S0 : Nat → Nat → Bool, (movP b) = S0 := ⟨_, rfl⟩
  obtain ⟨U0, hUe⟩ : ∃ U0 : Nat → Nat → Bool, (fun _ _ => false) = U0 := ⟨_, rfl⟩
  have hS0 : ∀ f t, S0 f t = (movP b) f t := fun f t => (congrFun (congrFun hSe f) t).symm
  have hU0 : ∀ f t, U0 f t = (fun _ _ => false) f t := fun f t => (congrFun (congrFun hUe f) t).symm
  have hSw : ∀ f t, S0 f t = true → isW (b f) = true := fun f t h => by
    rw [hS0] at h
    exact mov_w h
  rw [hSe, hUe] at E
  have L1 : ∀ n f : Nat, f + n = 25 → Ex X MX6_tells 7 [(3, .int (nI f)), (0, .ref 40), (1, .int (-1)), (2, .int (-1))] [] (HH P Hs T L S V (s, bf, sv, past, isv, pm) (r1, d1, it, loAll U0 b lo f) (wl mv (preL S0 f), (preL S0 f).length, ks, tn) ml mt) := by
    intro n
    induction n with
    | zero =>
      intro f hfn
      have e : f = 25 := by omega
      subst e
      refine x_iload_n C dX6_tells_7 rfl ?_
      refine x_bipush C (v := nI 25) dX6_tells_8 (by decide +kernel) ?_
      refine x_icmp_geN C 107 dX6_tells_10 (by decide) (by omega) (by omega) (fun c10 => ?_) (fun c10 => ?_)
      · exact x_vret E dX6_tells_107 rfl rfl rfl
      · exact absurd c10 (by decide)
    | succ n ih1 =>
      intro f hfn
      have hf25 : f < 25 := by omega
      have L2 : ∀ n t : Nat, t + n = 25 → Ex X MX6_tells 16 [(4, .int (nI t)), (3, .int (nI f)), (0, .ref 40), (1, .int (-1)), (2, .int (-1))] [] (HH P Hs T L S V (s, bf, sv, past, isv, pm) (r1, d1, it, loRow U0 b f (loAll U0 b lo f) t) (wl mv (preL S0 f ++ preRow S0 f t), (preL S0 f ++ preRow S0 f t).length, ks, tn) ml mt) := by
        intro n
        induction n with
        | zero =>
          intro t htn
          have e : t = 25 := by omega
          subst e
          refine x_iload C dX6_tells_16 rfl ?_
          refine x_bipush C (v := nI 25) dX6_tells_18 (by decide +kernel) ?_
          refine x_icmp_geN C 101 dX6_tells_20 (by decide) (by omega) (by omega) (fun c20 => ?_) (fun c20 => ?_)
          · refine x_iinc C _ dX6_tells_101 rfl (q_inc _) (by decide) [(3, _), (4, _), (0, _), (1, _), (2, _)] rfl ?_
            refine x_goto C 7 dX6_tells_104 (by decide) ?_
            exact x_sub [0, 2, 3, 4] (ih1 (f + 1) (by omega)) rfl
          · exact absurd c20 (by decide)
        | succ n ih =>
          intro t htn
          have ht25 : t < 25 := by omega
          refine x_iload C dX6_tells_16 rfl ?_
          refine x_bipush C (v := nI 25) dX6_tells_18 (by decide +kernel) ?_
          refine x_icmp_geN C 101 dX6_tells_20 (by decide) (by omega) (by omega) (fun c20 => ?_) (fun c20 => ?_)
          · exact absurd c20 (by omega)
          · refine x_iload_n C dX6_tells_23 rfl ?_
            refine x_if_lt C 32 dX6_tells_24 (by decide) (fun c24 => ?_) (fun c24 => ?_)
            · refine x_aload_n C dX6_tells_32 rfl ?_
              refine x_iload_n C dX6_tells_33 rfl ?_
              refine x_iload C dX6_tells_34 rfl ?_
              refine x_callV2i C (okX6_isMove hb hsb hu hf25 ht25) lkX6_117 miX6_isMove msX6_isMove maX6_isMove ⟨Nat.le_of_ble_eq_true rfl, Nat.le_of_ble_eq_true rfl⟩ (Nat.le_of_ble_eq_true rfl) rfl rfl dX6_tells_36 ?_
              refine x_if_eqB C 46 dX6_tells_39 (by decide) (fun c39 => ?_) (fun c39 => ?_)
              · refine x_iconst C (v := nI 0) dX6_tells_46 (by decide +kernel) ?_
                refine x_istore C dX6_tells_47 (by decide) [(5, _), (4, _), (3, _), (0, _), (1, _), (2, _)] rfl ?_
                refine x_iload C dX6_tells_49 rfl ?_
                refine x_if_eqN C 95 dX6_tells_51 (by decide) (by omega) (fun c51 => ?_) (fun c51 => ?_)
                · have hSv : S0 f t = false := by rw [hS0]; simp [selB, selC, c39]
                  have hUv : U0 f t = false := by rw [hU0]
                  refine x_heap (h2 := HH P Hs T L S V (s, bf, sv, past, isv, pm) (r1, d1, it, loRow U0 b f (loAll U0 b lo f) (t + 1)) (wl mv (preL S0 f ++ preRow S0 f (t + 1)), (preL S0 f ++ preRow S0 f (t + 1)).length, ks, tn) ml mt) (by rw [preRow, if_neg (by rw [hSv]; decide), List.append_nil, loRow, if_neg (by rw [hUv]; decide)]) ?_
                  refine x_iinc C _ dX6_tells_95 rfl (q_inc _) (by decide) [(4, _), (5, _), (3, _), (0, _), (1, _), (2, _)] rfl ?_
                  refine x_goto C 16 dX6_tells_98 (by decide) ?_
                  exact x_sub [0, 2, 3, 4, 5] (ih (t + 1) (by omega)) rfl
                · exact absurd rfl c51
              · refine x_iconst C (v := nI 1) dX6_tells_42 (by decide +kernel) ?_
                refine x_goto C 47 dX6_tells_43 (by decide) ?_
                refine x_istore C dX6_tells_47 (by decide) [(5, _), (4, _), (3, _), (0, _), (1, _), (2, _)] rfl ?_
                refine x_iload C dX6_tells_49 rfl ?_
                refine x_if_eqN C 95 dX6_tells_51 (by decide) (by omega) (fun c51 => ?_) (fun c51 => ?_)
                · exact absurd c51 (by decide)
                · refine x_iload_n C dX6_tells_54 rfl ?_
                  refine x_if_lt C 69 dX6_tells_55 (by decide) (fun c55 => ?_) (fun c55 => ?_)
                  · have hrm : (preL S0 f ++ preRow S0 f t).length < 300 := room hSw hw hf25 ht25 (by rw [hS0]; simp [selB, selC, c39])
                    refine x_aload_n C dX6_tells_69 rfl ?_
                    refine x_getfield C qk6 10 (by decide) lfX6_26 dX6_tells_70 rfl rfl ?_
                    refine x_aload_n C dX6_tells_73 rfl ?_
                    refine x_getfield C qk6 11 (by decide) lfX6_139 dX6_tells_74 rfl rfl ?_
                    refine x_bipush C (v := nI 100) dX6_tells_77 (by decide +kernel) ?_
                    refine x_iload_n C dX6_tells_79 rfl ?_
                    refine x_imulN C dX6_tells_80 ?_
                    refine x_iload C dX6_tells_81 rfl ?_
                    refine x_iaddN C dX6_tells_83 ?_
                    refine x_istb C dX6_tells_84 HM_mv hrm (by decide) ?_
                    refine x_heap (h2 := HH P Hs T L S V (s, bf, sv, past, isv, pm) (r1, d1, it, loRow U0 b f (loAll U0 b lo f) t) (up (wl mv (preL S0 f ++ preRow S0 f t)) (preL S0 f ++ preRow S0 f t).length (100 * f + t), (preL S0 f ++ preRow S0 f t).length, ks, tn) ml mt) (by rfl) ?_
                    refine x_aload_n C dX6_tells_85 rfl ?_
                    refine x_dup C rfl dX6_tells_86 ?_
                    refine x_getfield C qk6 11 (by decide) lfX6_139 dX6_tells_87 rfl rfl ?_
                    refine x_iconst C (v := nI 1) dX6_tells_90 (by decide +kernel) ?_
                    refine x_iaddN C dX6_tells_91 ?_
                    refine x_putfield C qk6 11 (by decide) lfX6_139 rfl (ty0 := .int) (by decide +kernel) rfl rfl dX6_tells_92 rfl (Nat.le_of_ble_eq_true rfl) ?_
                    refine x_heap (h2 := HH P Hs T L S V (s, bf, sv, past, isv, pm) (r1, d1, it, loRow U0 b f (loAll U0 b lo f) t) (up (wl mv (preL S0 f ++ preRow S0 f t)) (preL S0 f ++ preRow S0 f t).length (100 * f + t), (preL S0 f ++ preRow S0 f t).length + 1, ks, tn) ml mt) (by rfl) ?_
                    have hSv : S0 f t = true := by rw [hS0]; simp [selB, selC, c39]
                    have hUv : U0 f t = false := by rw [hU0]
                    refine x_heap (h2 := HH P Hs T L S V (s, bf, sv, past, isv, pm) (r1, d1, it, loRow U0 b f (loAll U0 b lo f) (t + 1)) (wl mv (preL S0 f ++ preRow S0 f (t + 1)), (preL S0 f ++ preRow S0 f (t + 1)).length, ks, tn) ml mt) (by rw [preRow, if_pos hSv, loRow, if_neg (by rw [hUv]; decide), ← List.append_assoc, ← wl_app, List.length_append (as := preL S0 f ++ preRow S0 f t), List.length_singleton]) ?_
                    refine x_iinc C _ dX6_tells_95 rfl (q_inc _) (by decide) [(4, _), (5, _), (3, _), (0, _), (1, _), (2, _)] rfl ?_
                    refine x_goto C 16 dX6_tells_98 (by decide) ?_
                    exact x_sub [0, 2, 3, 4, 5] (ih (t + 1) (by omega)) rfl
                  · exact absurd (by decide : (-1 : Int32) < 0) c55
            · exact absurd (by decide : (-1 : Int32) < 0) c24
      refine x_iload_n C dX6_tells_7 rfl ?_
      refine x_bipush C (v := nI 25) dX6_tells_8 (by decide +kernel) ?_
      refine x_icmp_geN C 107 dX6_tells_10 (by decide) (by omega) (by omega) (fun c10 => ?_) (fun c10 => ?_)
      · exact absurd c10 (by omega)
      · refine x_iconst C (v := nI 0) dX6_tells_13 (by decide +kernel) ?_
        refine x_istore C dX6_tells_14 (by decide) [(4, _), (3, _), (0, _), (1, _), (2, _)] rfl ?_
        refine x_heap (h2 := HH P Hs T L S V (s, bf, sv, past, isv, pm) (r1, d1, it, loRow U0 b f (loAll U0 b lo f) 0) (wl mv (preL S0 f ++ preRow S0 f 0), (preL S0 f ++ preRow S0 f 0).length, ks, tn) ml mt) (by rw [preRow, List.append_nil, loRow]) ?_
        exact L2 25 0 (by omega)
  refine x_aload_n C dX6_tells_0 rfl ?_
  refine x_iconst C (v := nI 0) dX6_tells_1 (by decide +kernel) ?_
  refine x_putfield C qk6 11 (by decide) lfX6_139 rfl (ty0 := .int) (by decide +kernel) rfl rfl dX6_tells_2 rfl (Nat.le_of_ble_eq_true rfl) ?_
  refine x_heap (h2 := HH P Hs T L S V (s, bf, sv, past, isv, pm) (r1, d1, it, loAll U0 b lo 0) (wl mv (preL S0 0), (preL S0 0).length, ks, tn) ml mt) (by rw [preL, wl_nil, loAll]; rfl) ?_
  refine x_iconst C (v := nI 0) dX6_tells_5 (by decide +kernel) ?_
  refine x_istore_n C dX6_tells_6 (by decide) [(3, _), (0, _), (1, _), (2, _)] rfl ?_
  exact L1 25 0 (by omega)
set_option maxHeartbeats 4000000 in
set_option maxRecDepth 100000 in
theorem okX6_tells_b {P : qPs} {Hs : qHs} {T : qTs} {L : qLs} {S : qSs} {V : qVs} {ml : qml} {mt : qmt} {s bf sv past : Nat → Nat} {isv : Bool} {pm : Nat} {r1 d1 it lo : Int32} {mv ks tn : Nat → Nat} {mn : Nat} {b : Nat → Nat} (hb : ∀ i, b i < 8) (hsb : Ag s b) (hu : Uq b 7) {q k : Nat} (hq : q ≤ 3) (hl : loc7 b 7 = some k) (hw : wNo b ≤ 12) : Ok MX6_tells [.ref 40, .int (-1), .int (nI q)] (HH P Hs T L S V (s, bf, sv, past, isv, pm) (r1, d1, it, lo) (mv, mn, ks, tn) ml mt) (none) (HH P Hs T L S V (s, bf, sv, past, isv, pm) (r1, d1, it, loAll (movP b) b lo 25) (wl mv (preL (selB b q) 25), (preL (selB b q) 25).length, ks, tn) ml mt) := by
  refine ok_of (by decide +kernel) (Nat.zero_le _) (Nat.le_of_ble_eq_true rfl) ?_
  intro X C E
  show Ex X MX6_tells 0 [(0, .ref 40), (1, .int (-1)), (2, .int (nI q))] [] (HH P Hs T L S V (s, bf, sv, past, isv, pm) (r1, d1, it, lo) (mv, mn, ks, tn) ml mt)
  obtain ⟨S0, hSe⟩ : ∃ S0 : Nat → Nat → Bool, (selB b q) = S0 := ⟨_, rfl⟩
  obtain ⟨U0, hUe⟩ : ∃ U0 : Nat → Nat → Bool, (movP b) = U0 := ⟨_, rfl⟩
  have hS0 : ∀ f t, S0 f t = (selB b q) f t := fun f t => (congrFun (congrFun hSe f) t).symm
  have hU0 : ∀ f t, U0 f t = (movP b) f t := fun f t => (congrFun (congrFun hUe f) t).symm
  have hSw : ∀ f t, S0 f t = true → isW (b f) = true := fun f t h => by
    rw [hS0] at h
    exact sel_w h
  rw [hSe, hUe] at E
  have L1 : ∀ n f : Nat, f + n = 25 → Ex X MX6_tells 7 [(3, .int (nI f)), (0, .ref 40), (1, .int (-1)), (2, .int (nI q))] [] (HH P Hs T L S V (s, bf, sv, past, isv, pm) (r1, d1, it, loAll U0 b lo f) (wl mv (preL S0 f), (preL S0 f).length, ks, tn) ml mt) := by
    intro n
    induction n with
    | zero =>
      intro f hfn
      have e : f = 25 := by omega
      subst e
      refine x_iload_n C dX6_tells_7 rfl ?_
      refine x_bipush C (v := nI 25) dX6_tells_8 (by decide +kernel) ?_
      refine x_icmp_geN C 107 dX6_tells_10 (by decide) (by omega) (by omega) (fun c10 => ?_) (fun c10 => ?_)
      · exact x_vret E dX6_tells_107 rfl rfl rfl
      · exact absurd c10 (by decide)
    | succ n ih1 =>
      intro f hfn
      have hf25 : f < 25 := by omega
      have L2 : ∀ n t : Nat, t + n = 25 → Ex X MX6_tells 16 [(4, .int (nI t)), (3, .int (nI f)), (0, .ref 40), (1, .int (-1)), (2, .int (nI q))] [] (HH P Hs T L S V (s, bf, sv, past, isv, pm) (r1, d1, it, loRow U0 b f (loAll U0 b lo f) t) (wl mv (preL S0 f ++ preRow S0 f t), (preL S0 f ++ preRow S0 f t).length, ks, tn) ml mt) := by
        intro n
        induction n with
        | zero =>
          intro t htn
          have e : t = 25 := by omega
          subst e
          refine x_iload C dX6_tells_16 rfl ?_
          refine x_bipush C (v := nI 25) dX6_tells_18 (by decide +kernel) ?_
          refine x_icmp_geN C 101 dX6_tells_20 (by decide) (by omega) (by omega) (fun c20 => ?_) (fun c20 => ?_)
          · refine x_iinc C _ dX6_tells_101 rfl (q_inc _) (by decide) [(3, _), (4, _), (0, _), (1, _), (2, _)] rfl ?_
            refine x_goto C 7 dX6_tells_104 (by decide) ?_
            exact x_sub [0, 2, 3, 4] (ih1 (f + 1) (by omega)) rfl
          · exact absurd c20 (by decide)
        | succ n ih =>
          intro t htn
          have ht25 : t < 25 := by omega
          refine x_iload C dX6_tells_16 rfl ?_
          refine x_bipush C (v := nI 25) dX6_tells_18 (by decide +kernel) ?_
          refine x_icmp_geN C 101 dX6_tells_20 (by decide) (by omega) (by omega) (fun c20 => ?_) (fun c20 => ?_)
          · exact absurd c20 (by omega)
          · refine x_iload_n C dX6_tells_23 rfl ?_
            refine x_if_lt C 32 dX6_tells_24 (by decide) (fun c24 => ?_) (fun c24 => ?_)
            · refine x_aload_n C dX6_tells_32 rfl ?_
              refine x_iload_n C dX6_tells_33 rfl ?_
              refine x_iload C dX6_tells_34 rfl ?_
              refine x_callV2i C (okX6_isMove hb hsb hu hf25 ht25) lkX6_117 miX6_isMove msX6_isMove maX6_isMove ⟨Nat.le_of_ble_eq_true rfl, Nat.le_of_ble_eq_true rfl⟩ (Nat.le_of_ble_eq_true rfl) rfl rfl dX6_tells_36 ?_
              refine x_if_eqB C 46 dX6_tells_39 (by decide) (fun c39 => ?_) (fun c39 => ?_)
              · refine x_iconst C (v := nI 0) dX6_tells_46 (by decide +kernel) ?_
                refine x_istore C dX6_tells_47 (by decide) [(5, _), (4, _), (3, _), (0, _), (1, _), (2, _)] rfl ?_
                refine x_iload C dX6_tells_49 rfl ?_
                refine x_if_eqN C 95 dX6_tells_51 (by decide) (by omega) (fun c51 => ?_) (fun c51 => ?_)
                · have hSv : S0 f t = false := by rw [hS0]; simp [selB, selC, c39]
                  have hUv : U0 f t = false := by rw [hU0]; simp [selC, c39]
                  refine x_heap (h2 := HH P Hs T L S V (s, bf, sv, past, isv, pm) (r1, d1, it, loRow U0 b f (loAll U0 b lo f) (t + 1)) (wl mv (preL S0 f ++ preRow S0 f (t + 1)), (preL S0 f ++ preRow S0 f (t + 1)).length, ks, tn) ml mt) (by rw [preRow, if_neg (by rw [hSv]; decide), List.append_nil, loRow, if_neg (by rw [hUv]; decide)]) ?_
                  refine x_iinc C _ dX6_tells_95 rfl (q_inc _) (by decide) [(4, _), (5, _), (3, _), (0, _), (1, _), (2, _)] rfl ?_
                  refine x_goto C 16 dX6_tells_98 (by decide) ?_
                  exact x_sub [0, 2, 3, 4, 5] (ih (t + 1) (by omega)) rfl
                · exact absurd rfl c51
              · refine x_iconst C (v := nI 1) dX6_tells_42 (by decide +kernel) ?_
                refine x_goto C 47 dX6_tells_43 (by decide) ?_
                refine x_istore C dX6_tells_47 (by decide) [(5, _), (4, _), (3, _), (0, _), (1, _), (2, _)] rfl ?_
                refine x_iload C dX6_tells_49 rfl ?_
                refine x_if_eqN C 95 dX6_tells_51 (by decide) (by omega) (fun c51 => ?_) (fun c51 => ?_)
                · exact absurd c51 (by decide)
                · refine x_iload_n C dX6_tells_54 rfl ?_
                  refine x_if_ltN C 69 dX6_tells_55 (by decide) (by omega) ?_
                  obtain ⟨hlk, huk⟩ := aft_king hb hf25 ht25 hl hu c39
                  have hkb := kindB_le (aft b f t)
                  refine x_aload_n C dX6_tells_58 rfl ?_
                  refine x_iload_n C dX6_tells_59 rfl ?_
                  refine x_iload C dX6_tells_60 rfl ?_
                  refine x_callV2i C (okX6_kindOf hb hsb hf25 ht25 hlk huk) lkX6_142 miX6_kindOf msX6_kindOf maX6_kindOf ⟨Nat.le_of_ble_eq_true rfl, Nat.le_of_ble_eq_true rfl⟩ (Nat.le_of_ble_eq_true rfl) rfl rfl dX6_tells_62 ?_
                  refine x_iload_n C dX6_tells_65 rfl ?_
                  refine x_icmp_neN C 95 dX6_tells_66 (by decide) (by omega) (by omega) (fun c66 => ?_) (fun c66 => ?_)
                  · have hSv : S0 f t = false := by rw [hS0]; simp [selB, selC, c39, c66]
                    have hUv : U0 f t = true := by rw [hU0]; simp [selC, c39, c66]
                    refine x_heap (h2 := HH P Hs T L S V (s, bf, sv, past, isv, pm) (r1, d1, it, loRow U0 b f (loAll U0 b lo f) (t + 1)) (wl mv (preL S0 f ++ preRow S0 f (t + 1)), (preL S0 f ++ preRow S0 f (t + 1)).length, ks, tn) ml mt) (by rw [preRow, if_neg (by rw [hSv]; decide), List.append_nil, loRow, if_pos hUv]) ?_
                    refine x_iinc C _ dX6_tells_95 rfl (q_inc _) (by decide) [(4, _), (5, _), (3, _), (0, _), (1, _), (2, _)] rfl ?_
                    refine x_goto C 16 dX6_tells_98 (by decide) ?_
                    exact x_sub [0, 2, 3, 4, 5] (ih (t + 1) (by omega)) rfl
                  · have hrm : (preL S0 f ++ preRow S0 f t).length < 300 := room hSw hw hf25 ht25 (by rw [hS0]; simp [selB, selC, c39, c66])
                    refine x_aload_n C dX6_tells_69 rfl ?_
                    refine x_getfield C qk6 10 (by decide) lfX6_26 dX6_tells_70 rfl rfl ?_
                    refine x_aload_n C dX6_tells_73 rfl ?_
                    refine x_getfield C qk6 11 (by decide) lfX6_139 dX6_tells_74 rfl rfl ?_
                    refine x_bipush C (v := nI 100) dX6_tells_77 (by decide +kernel) ?_
                    refine x_iload_n C dX6_tells_79 rfl ?_
                    refine x_imulN C dX6_tells_80 ?_
                    refine x_iload C dX6_tells_81 rfl ?_
                    refine x_iaddN C dX6_tells_83 ?_
                    refine x_istb C dX6_tells_84 HM_mv hrm (by decide) ?_
                    refine x_heap (h2 := HH P Hs T L S V (s, bf, sv, past, isv, pm) (r1, d1, it, low (escP (aft b f t)) 25 0) (up (wl mv (preL S0 f ++ preRow S0 f t)) (preL S0 f ++ preRow S0 f t).length (100 * f + t), (preL S0 f ++ preRow S0 f t).length, ks, tn) ml mt) (by rfl) ?_
                    refine x_aload_n C dX6_tells_85 rfl ?_
                    refine x_dup C rfl dX6_tells_86 ?_
                    refine x_getfield C qk6 11 (by decide) lfX6_139 dX6_tells_87 rfl rfl ?_
                    refine x_iconst C (v := nI 1) dX6_tells_90 (by decide +kernel) ?_
                    refine x_iaddN C dX6_tells_91 ?_
                    refine x_putfield C qk6 11 (by decide) lfX6_139 rfl (ty0 := .int) (by decide +kernel) rfl rfl dX6_tells_92 rfl (Nat.le_of_ble_eq_true rfl) ?_
                    refine x_heap (h2 := HH P Hs T L S V (s, bf, sv, past, isv, pm) (r1, d1, it, low (escP (aft b f t)) 25 0) (up (wl mv (preL S0 f ++ preRow S0 f t)) (preL S0 f ++ preRow S0 f t).length (100 * f + t), (preL S0 f ++ preRow S0 f t).length + 1, ks, tn) ml mt) (by rfl) ?_
                    have hSv : S0 f t = true := by rw [hS0]; simp [selB, selC, c39, c66]
                    have hUv : U0 f t = true := by rw [hU0]; simp [selC, c39, c66]
                    refine x_heap (h2 := HH P Hs T L S V (s, bf, sv, past, isv, pm) (r1, d1, it, loRow U0 b f (loAll U0 b lo f) (t + 1)) (wl mv (preL S0 f ++ preRow S0 f (t + 1)), (preL S0 f ++ preRow S0 f (t + 1)).length, ks, tn) ml mt) (by rw [preRow, if_pos hSv, loRow, if_pos hUv, ← List.append_assoc, ← wl_app, List.length_append (as := preL S0 f ++ preRow S0 f t), List.length_singleton]) ?_
                    refine x_iinc C _ dX6_tells_95 rfl (q_inc _) (by decide) [(4, _), (5, _), (3, _), (0, _), (1, _), (2, _)] rfl ?_
                    refine x_goto C 16 dX6_tells_98 (by decide) ?_
                    exact x_sub [0, 2, 3, 4, 5] (ih (t + 1) (by omega)) rfl
            · exact absurd (by decide : (-1 : Int32) < 0) c24
      refine x_iload_n C dX6_tells_7 rfl ?_
      refine x_bipush C (v := nI 25) dX6_tells_8 (by decide +kernel) ?_
      refine x_icmp_geN C 107 dX6_tells_10 (by decide) (by omega) (by omega) (fun c10 => ?_) (fun c10 => ?_)
      · exact absurd c10 (by omega)
      · refine x_iconst C (v := nI 0) dX6_tells_13 (by decide +kernel) ?_
        refine x_istore C dX6_tells_14 (by decide) [(4, _), (3, _), (0, _), (1, _), (2, _)] rfl ?_
        refine x_heap (h2 := HH P Hs T L S V (s, bf, sv, past, isv, pm) (r1, d1, it, loRow U0 b f (loAll U0 b lo f) 0) (wl mv (preL S0 f ++ preRow S0 f 0), (preL S0 f ++ preRow S0 f 0).length, ks, tn) ml mt) (by rw [preRow, List.append_nil, loRow]) ?_
        exact L2 25 0 (by omega)
  refine x_aload_n C dX6_tells_0 rfl ?_
  refine x_iconst C (v := nI 0) dX6_tells_1 (by decide +kernel) ?_
  refine x_putfield C qk6 11 (by decide) lfX6_139 rfl (ty0 := .int) (by decide +kernel) rfl rfl dX6_tells_2 rfl (Nat.le_of_ble_eq_true rfl) ?_
  refine x_heap (h2 := HH P Hs T L S V (s, bf, sv, past, isv, pm) (r1, d1, it, loAll U0 b lo 0) (wl mv (preL S0 0), (preL S0 0).length, ks, tn) ml mt) (by rw [preL, wl_nil, loAll]; rfl) ?_
  refine x_iconst C (v := nI 0) dX6_tells_5 (by decide +kernel) ?_
  refine x_istore_n C dX6_tells_6 (by decide) [(3, _), (0, _), (1, _), (2, _)] rfl ?_
  exact L1 25 0 (by omega)
set_option maxHeartbeats 4000000 in
set_option maxRecDepth 100000 in
theorem okX6_tells_c {P : qPs} {Hs : qHs} {T : qTs} {L : qLs} {S : qSs} {V : qVs} {ml : qml} {mt : qmt} {s bf sv past : Nat → Nat} {isv : Bool} {pm : Nat} {r1 d1 it lo : Int32} {mv ks tn : Nat → Nat} {mn : Nat} {b : Nat → Nat} (hb : ∀ i, b i < 8) (hsb : Ag s b) (hu : Uq b 7) {m k : Nat} (hm : m < 25) (hl : loc7 b 7 = some k) (hw : wNo b ≤ 12) : Ok MX6_tells [.ref 40, .int (nI m), .int (nI 3)] (HH P Hs T L S V (s, bf, sv, past, isv, pm) (r1, d1, it, lo) (mv, mn, ks, tn) ml mt) (none) (HH P Hs T L S V (s, bf, sv, past, isv, pm) (r1, d1, it, loAll (selC (movP b) m) b lo 25) (wl mv (preL (selC (selB b 3) m) 25), (preL (selC (selB b 3) m) 25).length, ks, tn) ml mt) := by
  refine ok_of (by decide +kernel) (Nat.zero_le _) (Nat.le_of_ble_eq_true rfl) ?_
  intro X C E
  show Ex X MX6_tells 0 [(0, .ref 40), (1, .int (nI m)), (2, .int (nI 3))] [] (HH P Hs T L S V (s, bf, sv, past, isv, pm) (r1, d1, it, lo) (mv, mn, ks, tn) ml mt)
  obtain ⟨S0, hSe⟩ : ∃ S0 : Nat → Nat → Bool, (selC (selB b 3) m) = S0 := ⟨_, rfl⟩
  obtain ⟨U0, hUe⟩ : ∃ U0 : Nat → Nat → Bool, (selC (movP b) m) = U0 := ⟨_, rfl⟩
  have hS0 : ∀ f t, S0 f t = (selC (selB b 3) m) f t := fun f t => (congrFun (congrFun hSe f) t).symm
  have hU0 : ∀ f t, U0 f t = (selC (movP b) m) f t := fun f t => (congrFun (congrFun hUe f) t).symm
  have hSw : ∀ f t, S0 f t = true → isW (b f) = true := fun f t h => by
    rw [hS0] at h
    exact selC_w (b := b) (S := selB b 3) (fun f t h => sel_w h) h
  rw [hSe, hUe] at E
  have L1 : ∀ n f : Nat, f + n = 25 → Ex X MX6_tells 7 [(3, .int (nI f)), (0, .ref 40), (1, .int (nI m)), (2, .int (nI 3))] [] (HH P Hs T L S V (s, bf, sv, past, isv, pm) (r1, d1, it, loAll U0 b lo f) (wl mv (preL S0 f), (preL S0 f).length, ks, tn) ml mt) := by
    intro n
    induction n with
    | zero =>
      intro f hfn
      have e : f = 25 := by omega
      subst e
      refine x_iload_n C dX6_tells_7 rfl ?_
      refine x_bipush C (v := nI 25) dX6_tells_8 (by decide +kernel) ?_
      refine x_icmp_geN C 107 dX6_tells_10 (by decide) (by omega) (by omega) (fun c10 => ?_) (fun c10 => ?_)
      · exact x_vret E dX6_tells_107 rfl rfl rfl
      · exact absurd c10 (by decide)
    | succ n ih1 =>
      intro f hfn
      have hf25 : f < 25 := by omega
      have L2 : ∀ n t : Nat, t + n = 25 → Ex X MX6_tells 16 [(4, .int (nI t)), (3, .int (nI f)), (0, .ref 40), (1, .int (nI m)), (2, .int (nI 3))] [] (HH P Hs T L S V (s, bf, sv, past, isv, pm) (r1, d1, it, loRow U0 b f (loAll U0 b lo f) t) (wl mv (preL S0 f ++ preRow S0 f t), (preL S0 f ++ preRow S0 f t).length, ks, tn) ml mt) := by
        intro n
        induction n with
        | zero =>
          intro t htn
          have e : t = 25 := by omega
          subst e
          refine x_iload C dX6_tells_16 rfl ?_
          refine x_bipush C (v := nI 25) dX6_tells_18 (by decide +kernel) ?_
          refine x_icmp_geN C 101 dX6_tells_20 (by decide) (by omega) (by omega) (fun c20 => ?_) (fun c20 => ?_)
          · refine x_iinc C _ dX6_tells_101 rfl (q_inc _) (by decide) [(3, _), (4, _), (0, _), (1, _), (2, _)] rfl ?_
            refine x_goto C 7 dX6_tells_104 (by decide) ?_
            exact x_sub [0, 2, 3, 4] (ih1 (f + 1) (by omega)) rfl
          · exact absurd c20 (by decide)
        | succ n ih =>
          intro t htn
          have ht25 : t < 25 := by omega
          refine x_iload C dX6_tells_16 rfl ?_
          refine x_bipush C (v := nI 25) dX6_tells_18 (by decide +kernel) ?_
          refine x_icmp_geN C 101 dX6_tells_20 (by decide) (by omega) (by omega) (fun c20 => ?_) (fun c20 => ?_)
          · exact absurd c20 (by omega)
          · refine x_iload_n C dX6_tells_23 rfl ?_
            refine x_if_ltN C 32 dX6_tells_24 (by decide) (by omega) ?_
            refine x_iload_n C dX6_tells_27 rfl ?_
            refine x_iload_n C dX6_tells_28 rfl ?_
            refine x_icmp_neN C 46 dX6_tells_29 (by decide) (by omega) (by omega) (fun c29 => ?_) (fun c29 => ?_)
            · refine x_iconst C (v := nI 0) dX6_tells_46 (by decide +kernel) ?_
              refine x_istore C dX6_tells_47 (by decide) [(5, _), (4, _), (3, _), (0, _), (1, _), (2, _)] rfl ?_
              refine x_iload C dX6_tells_49 rfl ?_
              refine x_if_eqN C 95 dX6_tells_51 (by decide) (by omega) (fun c51 => ?_) (fun c51 => ?_)
              · have hSv : S0 f t = false := by rw [hS0]; simp [selB, selC, c29]
                have hUv : U0 f t = false := by rw [hU0]; simp [selC, c29]
                refine x_heap (h2 := HH P Hs T L S V (s, bf, sv, past, isv, pm) (r1, d1, it, loRow U0 b f (loAll U0 b lo f) (t + 1)) (wl mv (preL S0 f ++ preRow S0 f (t + 1)), (preL S0 f ++ preRow S0 f (t + 1)).length, ks, tn) ml mt) (by rw [preRow, if_neg (by rw [hSv]; decide), List.append_nil, loRow, if_neg (by rw [hUv]; decide)]) ?_
                refine x_iinc C _ dX6_tells_95 rfl (q_inc _) (by decide) [(4, _), (5, _), (3, _), (0, _), (1, _), (2, _)] rfl ?_
                refine x_goto C 16 dX6_tells_98 (by decide) ?_
                exact x_sub [0, 2, 3, 4, 5] (ih (t + 1) (by omega)) rfl
              · exact absurd rfl c51
            · refine x_aload_n C dX6_tells_32 rfl ?_
              refine x_iload_n C dX6_tells_33 rfl ?_
              refine x_iload C dX6_tells_34 rfl ?_
              refine x_callV2i C (okX6_isMove hb hsb hu hf25 ht25) lkX6_117 miX6_isMove msX6_isMove maX6_isMove ⟨Nat.le_of_ble_eq_true rfl, Nat.le_of_ble_eq_true rfl⟩ (Nat.le_of_ble_eq_true rfl) rfl rfl dX6_tells_36 ?_
              refine x_if_eqB C 46 dX6_tells_39 (by decide) (fun c39 => ?_) (fun c39 => ?_)
              · refine x_iconst C (v := nI 0) dX6_tells_46 (by decide +kernel) ?_
                refine x_istore C dX6_tells_47 (by decide) [(5, _), (4, _), (3, _), (0, _), (1, _), (2, _)] rfl ?_
                refine x_iload C dX6_tells_49 rfl ?_
                refine x_if_eqN C 95 dX6_tells_51 (by decide) (by omega) (fun c51 => ?_) (fun c51 => ?_)
                · have hSv : S0 f t = false := by rw [hS0]; simp [selB, selC, c39, ← c29]
                  have hUv : U0 f t = false := by rw [hU0]; simp [selC, c39, ← c29]
                  refine x_heap (h2 := HH P Hs T L S V (s, bf, sv, past, isv, pm) (r1, d1, it, loRow U0 b f (loAll U0 b lo f) (t + 1)) (wl mv (preL S0 f ++ preRow S0 f (t + 1)), (preL S0 f ++ preRow S0 f (t + 1)).length, ks, tn) ml mt) (by rw [preRow, if_neg (by rw [hSv]; decide), List.append_nil, loRow, if_neg (by rw [hUv]; decide)]) ?_
                  refine x_iinc C _ dX6_tells_95 rfl (q_inc _) (by decide) [(4, _), (5, _), (3, _), (0, _), (1, _), (2, _)] rfl ?_
                  refine x_goto C 16 dX6_tells_98 (by decide) ?_
                  exact x_sub [0, 2, 3, 4, 5] (ih (t + 1) (by omega)) rfl
                · exact absurd rfl c51
              · refine x_iconst C (v := nI 1) dX6_tells_42 (by decide +kernel) ?_
                refine x_goto C 47 dX6_tells_43 (by decide) ?_
                refine x_istore C dX6_tells_47 (by decide) [(5, _), (4, _), (3, _), (0, _), (1, _), (2, _)] rfl ?_
                refine x_iload C dX6_tells_49 rfl ?_
                refine x_if_eqN C 95 dX6_tells_51 (by decide) (by omega) (fun c51 => ?_) (fun c51 => ?_)
                · exact absurd c51 (by decide)
                · refine x_iload_n C dX6_tells_54 rfl ?_
                  refine x_if_ltN C 69 dX6_tells_55 (by decide) (by omega) ?_
                  obtain ⟨hlk, huk⟩ := aft_king hb hf25 ht25 hl hu c39
                  have hkb := kindB_le (aft b f t)
                  refine x_aload_n C dX6_tells_58 rfl ?_
                  refine x_iload_n C dX6_tells_59 rfl ?_
                  refine x_iload C dX6_tells_60 rfl ?_
                  refine x_callV2i C (okX6_kindOf hb hsb hf25 ht25 hlk huk) lkX6_142 miX6_kindOf msX6_kindOf maX6_kindOf ⟨Nat.le_of_ble_eq_true rfl, Nat.le_of_ble_eq_true rfl⟩ (Nat.le_of_ble_eq_true rfl) rfl rfl dX6_tells_62 ?_
                  refine x_iload_n C dX6_tells_65 rfl ?_
                  refine x_icmp_neN C 95 dX6_tells_66 (by decide) (by omega) (by omega) (fun c66 => ?_) (fun c66 => ?_)
                  · have hSv : S0 f t = false := by rw [hS0]; simp [selB, selC, c39, c66, ← c29]
                    have hUv : U0 f t = true := by rw [hU0]; simp [selC, c39, c66, ← c29]
                    refine x_heap (h2 := HH P Hs T L S V (s, bf, sv, past, isv, pm) (r1, d1, it, loRow U0 b f (loAll U0 b lo f) (t + 1)) (wl mv (preL S0 f ++ preRow S0 f (t + 1)), (preL S0 f ++ preRow S0 f (t + 1)).length, ks, tn) ml mt) (by rw [preRow, if_neg (by rw [hSv]; decide), List.append_nil, loRow, if_pos hUv]) ?_
                    refine x_iinc C _ dX6_tells_95 rfl (q_inc _) (by decide) [(4, _), (5, _), (3, _), (0, _), (1, _), (2, _)] rfl ?_
                    refine x_goto C 16 dX6_tells_98 (by decide) ?_
                    exact x_sub [0, 2, 3, 4, 5] (ih (t + 1) (by omega)) rfl
                  · have hrm : (preL S0 f ++ preRow S0 f t).length < 300 := room hSw hw hf25 ht25 (by rw [hS0]; simp [selB, selC, c39, c66, ← c29])
                    refine x_aload_n C dX6_tells_69 rfl ?_
                    refine x_getfield C qk6 10 (by decide) lfX6_26 dX6_tells_70 rfl rfl ?_
                    refine x_aload_n C dX6_tells_73 rfl ?_
                    refine x_getfield C qk6 11 (by decide) lfX6_139 dX6_tells_74 rfl rfl ?_
                    refine x_bipush C (v := nI 100) dX6_tells_77 (by decide +kernel) ?_
                    refine x_iload_n C dX6_tells_79 rfl ?_
                    refine x_imulN C dX6_tells_80 ?_
                    refine x_iload C dX6_tells_81 rfl ?_
                    refine x_iaddN C dX6_tells_83 ?_
                    refine x_istb C dX6_tells_84 HM_mv hrm (by decide) ?_
                    refine x_heap (h2 := HH P Hs T L S V (s, bf, sv, past, isv, pm) (r1, d1, it, low (escP (aft b f t)) 25 0) (up (wl mv (preL S0 f ++ preRow S0 f t)) (preL S0 f ++ preRow S0 f t).length (100 * f + t), (preL S0 f ++ preRow S0 f t).length, ks, tn) ml mt) (by rfl) ?_
                    refine x_aload_n C dX6_tells_85 rfl ?_
                    refine x_dup C rfl dX6_tells_86 ?_
                    refine x_getfield C qk6 11 (by decide) lfX6_139 dX6_tells_87 rfl rfl ?_
                    refine x_iconst C (v := nI 1) dX6_tells_90 (by decide +kernel) ?_
                    refine x_iaddN C dX6_tells_91 ?_
                    refine x_putfield C qk6 11 (by decide) lfX6_139 rfl (ty0 := .int) (by decide +kernel) rfl rfl dX6_tells_92 rfl (Nat.le_of_ble_eq_true rfl) ?_
                    refine x_heap (h2 := HH P Hs T L S V (s, bf, sv, past, isv, pm) (r1, d1, it, low (escP (aft b f t)) 25 0) (up (wl mv (preL S0 f ++ preRow S0 f t)) (preL S0 f ++ preRow S0 f t).length (100 * f + t), (preL S0 f ++ preRow S0 f t).length + 1, ks, tn) ml mt) (by rfl) ?_
                    have hSv : S0 f t = true := by rw [hS0]; simp [selB, selC, c39, c66, ← c29]
                    have hUv : U0 f t = true := by rw [hU0]; simp [selC, c39, c66, ← c29]
                    refine x_heap (h2 := HH P Hs T L S V (s, bf, sv, past, isv, pm) (r1, d1, it, loRow U0 b f (loAll U0 b lo f) (t + 1)) (wl mv (preL S0 f ++ preRow S0 f (t + 1)), (preL S0 f ++ preRow S0 f (t + 1)).length, ks, tn) ml mt) (by rw [preRow, if_pos hSv, loRow, if_pos hUv, ← List.append_assoc, ← wl_app, List.length_append (as := preL S0 f ++ preRow S0 f t), List.length_singleton]) ?_
                    refine x_iinc C _ dX6_tells_95 rfl (q_inc _) (by decide) [(4, _), (5, _), (3, _), (0, _), (1, _), (2, _)] rfl ?_
                    refine x_goto C 16 dX6_tells_98 (by decide) ?_
                    exact x_sub [0, 2, 3, 4, 5] (ih (t + 1) (by omega)) rfl
      refine x_iload_n C dX6_tells_7 rfl ?_
      refine x_bipush C (v := nI 25) dX6_tells_8 (by decide +kernel) ?_
      refine x_icmp_geN C 107 dX6_tells_10 (by decide) (by omega) (by omega) (fun c10 => ?_) (fun c10 => ?_)
      · exact absurd c10 (by omega)
      · refine x_iconst C (v := nI 0) dX6_tells_13 (by decide +kernel) ?_
        refine x_istore C dX6_tells_14 (by decide) [(4, _), (3, _), (0, _), (1, _), (2, _)] rfl ?_
        refine x_heap (h2 := HH P Hs T L S V (s, bf, sv, past, isv, pm) (r1, d1, it, loRow U0 b f (loAll U0 b lo f) 0) (wl mv (preL S0 f ++ preRow S0 f 0), (preL S0 f ++ preRow S0 f 0).length, ks, tn) ml mt) (by rw [preRow, List.append_nil, loRow]) ?_
        exact L2 25 0 (by omega)
  refine x_aload_n C dX6_tells_0 rfl ?_
  refine x_iconst C (v := nI 0) dX6_tells_1 (by decide +kernel) ?_
  refine x_putfield C qk6 11 (by decide) lfX6_139 rfl (ty0 := .int) (by decide +kernel) rfl rfl dX6_tells_2 rfl (Nat.le_of_ble_eq_true rfl) ?_
  refine x_heap (h2 := HH P Hs T L S V (s, bf, sv, past, isv, pm) (r1, d1, it, loAll U0 b lo 0) (wl mv (preL S0 0), (preL S0 0).length, ks, tn) ml mt) (by rw [preL, wl_nil, loAll]; rfl) ?_
  refine x_iconst C (v := nI 0) dX6_tells_5 (by decide +kernel) ?_
  refine x_istore_n C dX6_tells_6 (by decide) [(3, _), (0, _), (1, _), (2, _)] rfl ?_
  exact L1 25 0 (by omega)
