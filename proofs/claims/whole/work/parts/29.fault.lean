/-! the fault in a text -/
abbrev qR : Type := (Nat → Int32) × (Nat → Int32) × (Nat → Int32) × Nat
def keepR (q : qQ) (r : qR) : qR := (upd r.1 r.2.2.2 q.1, upd r.2.1 r.2.2.2 q.2.2.1, upd r.2.2.1 r.2.2.2 q.2.2.2, r.2.2.2 + 1)
def scH (h : qH) (n : Nat) (q : qQ) (r : qR) : qH := (((h.set 37 (qI 35 r.1)).set 38 (qI 35 r.2.1)).set 39 (qI 35 r.2.2.1)).set 35 (qSq n r.2.2.2 q)
def prs (tx : Nat → Nat) : Nat → Nat → Nat → qQ → qR → Int32 × qQ × qR
  | 0, i, d, q, r => (if d = 5 then -1 else nI i, q, r)
  | m + 1, i, d, q, r => match (due d (tx i) q).1 with
    | none => (nI i, (due d (tx i) q).2, r)
    | some d2 => prs tx m (i + 1) d2 (due d (tx i) q).2 (if d2 = 5 then keepR (due d (tx i) q).2 r else r)
abbrev ScQ (h : qH) (tx : Nat → Nat) (n : Nat) (q : qQ) (r : qR) : Prop := ScA h tx n r.1 r.2.1 r.2.2.1 r.2.2.2 q.1 q.2.1 q.2.2.1 q.2.2.2
theorem scH_A {h : qH} {tx : Nat → Nat} {n n0 : Nat} {wh og sq : Nat → Int32} {cm : Nat} {w co o s : Int32} (hs : ScA h tx n0 wh og sq cm w co o s) (q : qQ) (r : qR) : ScQ (scH h n q r) tx n q r := by
  obtain ⟨h0, h1, h2, h3, h4⟩ := hs
  unfold scH
  refine ⟨q_gss (y := qS n0 cm w co o s) ?_, ?_, ?_, ?_, ?_⟩
  · rw [q_gso (by decide), q_gso (by decide), q_gso (by decide)]; exact h0
  · rw [q_gso (by decide), q_gso (by decide), q_gso (by decide), q_gso (by decide)]; exact h1
  · rw [q_gso (by decide), q_gso (by decide), q_gso (by decide)]; exact q_gss h2
  · rw [q_gso (by decide), q_gso (by decide)]; exact q_gss ((q_gso (by decide)).trans h3)
  · rw [q_gso (by decide)]; exact q_gss ((q_gso (by decide)).trans ((q_gso (by decide)).trans h4))
theorem scH_35 (h : qH) (n : Nat) (q q2 : qQ) (r : qR) : (scH h n q r).set 35 (qSq n r.2.2.2 q2) = scH h n q2 r := by
  unfold scH
  rw [List.set_set]
theorem scH_keep (h : qH) (n : Nat) (q : qQ) (r r2 : qR) : ((((scH h n q r).set 37 (qI 35 r2.1)).set 38 (qI 35 r2.2.1)).set 39 (qI 35 r2.2.2.1)).set 35 (qSq n r2.2.2.2 q) = scH h n q r2 := by
  unfold scH
  apply List.ext_getElem?
  intro i
  by_cases h1 : i = 35
  · subst h1; simp [List.getElem?_set]
  · by_cases h2 : i = 39
    · subst h2; simp [List.getElem?_set]
    · by_cases h3 : i = 38
      · subst h3; simp [List.getElem?_set]
      · by_cases h4 : i = 37
        · subst h4; simp [List.getElem?_set]
        · rw [q_gso (Ne.symm h1), q_gso (Ne.symm h2), q_gso (Ne.symm h3), q_gso (Ne.symm h4), q_gso (Ne.symm h1), q_gso (Ne.symm h2), q_gso (Ne.symm h3), q_gso (Ne.symm h4), q_gso (Ne.symm h1), q_gso (Ne.symm h2), q_gso (Ne.symm h3), q_gso (Ne.symm h4)]
theorem scH_init {h : qH} {tx : Nat → Nat} {n : Nat} {wh og sq : Nat → Int32} {cm : Nat} {w co o s : Int32} (hs : ScA h tx n wh og sq cm w co o s) (n2 cm2 : Nat) (q : qQ) : scH h n2 q (wh, og, sq, cm2) = h.set 35 (qSq n2 cm2 q) := by
  obtain ⟨h0, h1, h2, h3, h4⟩ := hs
  unfold scH
  rw [q_same h2, q_same h3, q_same h4]
theorem dFd_lt {c d : Nat} (h : dFd c = some d) : d < 6 := by
  unfold dFd at h
  (repeat' split at h) <;> first | (cases h; done) | (cases h; decide)
theorem due_lt {d c d2 : Nat} {q : qQ} (h : (due d c q).1 = some d2) : d2 < 6 ∧ (d = 5 → d2 = 0) := by
  unfold due at h
  by_cases e0 : d = 0
  · rw [if_pos e0] at h
    exact ⟨dFd_lt h, fun e => by omega⟩
  · rw [if_neg e0] at h
    refine ⟨?_, fun e => ?_⟩
    · (repeat' split at h) <;> first | (cases h; done) | (cases h; decide) | (simp only [] at h; (repeat' split at h) <;> first | (cases h; done) | (cases h; decide))
    · subst e
      rw [if_neg (by decide), if_neg (by decide), if_neg (by decide), if_neg (by decide)] at h
      simp only [] at h
      split at h
      · cases h; rfl
      · cases h
theorem x_heap {X : qX} {M : qM} {pc : Nat} {loc : List (Nat × Value)} {st : List Value} {h1 h2 : qH} (e : h1 = h2) (kk : Ex X M pc loc st h2) : Ex X M pc loc st h1 := by rw [e]; exact kk
theorem nI_m1 {d : Nat} (h : d < 6) : ¬ nI d = -1 := (by decide +kernel : ∀ d : Fin 6, ¬ nI d = -1) ⟨d, h⟩
set_option maxHeartbeats 4000000 in
set_option maxRecDepth 100000 in
theorem okX4_findFault {h : qH} {tx : Nat → Nat} {n : Nat} {wh og sq : Nat → Int32} {cm : Nat} {w co o s : Int32} (hs : ScA h tx n wh og sq cm w co o s) (hn : n ≤ 70) (htx : ∀ i, tx i < 128) (q0 : qQ) (r0 : qR) (hq0 : q0 = (w, co, o, s)) (hr0 : r0 = (wh, og, sq, 0)) : Ok MX4_findFault [.ref 35] (h) (some (.int (prs tx n 0 0 q0 r0).1)) (scH h n (prs tx n 0 0 q0 r0).2.1 (prs tx n 0 0 q0 r0).2.2) := by
  refine ok_of (by decide +kernel) (Nat.zero_le _) (Nat.le_of_ble_eq_true rfl) ?_
  intro X C E
  show Ex X MX4_findFault 0 [(0, .ref 35)] [] (h)
  have L : ∀ m i d : Nat, ∀ q : qQ, ∀ r : qR, i + m = n → d < 6 → 2 * r.2.2.2 ≤ i + (if d = 5 then 1 else 0) → prs tx n 0 0 q0 r0 = prs tx m i d q r → Ex X MX4_findFault 9 [(0, .ref 35), (1, .int (nI d)), (2, .int (nI i))] [] (scH h n q r) := by
    intro m
    induction m with
    | zero =>
      intro i d q r hin hd hc he
      have A : ScQ (scH h n q r) tx n q r := scH_A hs q r
      refine x_iload_n C dX4_findFault_9 rfl ?_
      refine x_aload_n C dX4_findFault_10 rfl ?_
      refine x_getfield C qk4 1 (by decide) lfX4_24 dX4_findFault_11 A.1 rfl ?_
      refine x_icmp_geN C 57 dX4_findFault_14 (by decide) (by omega) (by omega) (fun c14 => ?_) (fun c14 => ?_)
      · refine x_iload_n C dX4_findFault_57 rfl ?_
        refine x_iconst C (v := nI 5) dX4_findFault_58 (by decide +kernel) ?_
        refine x_icmp_neN C 66 dX4_findFault_59 (by decide) (by omega) (by omega) (fun c59 => ?_) (fun c59 => ?_)
        · refine x_aload_n C dX4_findFault_66 rfl ?_
          refine x_getfield C qk4 1 (by decide) lfX4_24 dX4_findFault_67 A.1 rfl ?_
          exact x_iret E .int dX4_findFault_70 rfl rfl (by rw [he, prs, if_neg c59, show i = n by omega]) (by rw [he]; rfl)
        · refine x_iconst C (v := (-1)) dX4_findFault_62 (by decide +kernel) ?_
          refine x_goto C 70 dX4_findFault_63 (by decide) ?_
          exact x_iret E .int dX4_findFault_70 rfl rfl (by rw [he, prs, if_pos c59]) (by rw [he]; rfl)
      · exact absurd (Nat.le_of_eq hin.symm) (by omega)
    | succ m ih =>
      intro i d q r hin hd hc he
      have A : ScQ (scH h n q r) tx n q r := scH_A hs q r
      refine x_iload_n C dX4_findFault_9 rfl ?_
      refine x_aload_n C dX4_findFault_10 rfl ?_
      refine x_getfield C qk4 1 (by decide) lfX4_24 dX4_findFault_11 A.1 rfl ?_
      refine x_icmp_geN C 57 dX4_findFault_14 (by decide) (by omega) (by omega) (fun c14 => ?_) (fun c14 => ?_)
      · omega
      · refine x_iload_n C dX4_findFault_17 rfl ?_
        refine x_bipush C (v := nI 70) dX4_findFault_18 (by decide +kernel) ?_
        refine x_icmp_geN C 57 dX4_findFault_20 (by decide) (by omega) (by omega) (fun c20 => ?_) (fun c20 => ?_)
        · omega
        · refine x_aload_n C dX4_findFault_23 rfl ?_
          refine x_iload_n C dX4_findFault_24 rfl ?_
          refine x_aload_n C dX4_findFault_25 rfl ?_
          refine x_getfield C qk4 0 (by decide) lfX4_9 dX4_findFault_26 A.1 rfl ?_
          refine x_iload_n C dX4_findFault_29 rfl ?_
          refine x_iald C dX4_findFault_30 A.2.1 (by omega) (by decide) ?_
          refine x_callV2i C (okX4_dueBehind A hd (htx i)) lkX4_31 miX4_dueBehind msX4_dueBehind maX4_dueBehind ⟨Nat.le_of_ble_eq_true rfl, Nat.le_of_ble_eq_true rfl⟩ (Nat.le_of_ble_eq_true rfl) A.1 rfl dX4_findFault_31 ?_
          rw [show (scH h n q r).set 35 (qSq n r.2.2.2 (due d (tx i) (q.1, q.2.1, q.2.2.1, q.2.2.2)).2) = scH h n (due d (tx i) q).2 r from scH_35 h n q _ r, show due d (tx i) (q.1, q.2.1, q.2.2.1, q.2.2.2) = due d (tx i) q from rfl]
          have A2 : ScQ (scH h n (due d (tx i) q).2 r) tx n (due d (tx i) q).2 r := scH_A hs _ r
          cases e : (due d (tx i) q).1 with
          | none =>
            refine x_istore_n C dX4_findFault_34 (by decide) [(1, _), (0, _), (2, _)] rfl ?_
            refine x_iload_n C dX4_findFault_35 rfl ?_
            refine x_iconst C (v := (-1)) dX4_findFault_36 (by decide +kernel) ?_
            refine x_icmp_ne C 42 dX4_findFault_37 (by decide) (fun c37 => ?_) (fun c37 => ?_)
            · exact absurd rfl c37
            · refine x_iload_n C dX4_findFault_40 rfl ?_
              exact x_iret E .int dX4_findFault_41 rfl rfl (by rw [he, prs, e]) (by rw [he, prs, e])
          | some d2 =>
            have hd2 := due_lt e
            rw [show sqI (some d2) = nI d2 from rfl]
            refine x_istore_n C dX4_findFault_34 (by decide) [(1, _), (0, _), (2, _)] rfl ?_
            refine x_iload_n C dX4_findFault_35 rfl ?_
            refine x_iconst C (v := (-1)) dX4_findFault_36 (by decide +kernel) ?_
            refine x_icmp_ne C 42 dX4_findFault_37 (by decide) (fun c37 => ?_) (fun c37 => ?_)
            · refine x_iload_n C dX4_findFault_42 rfl ?_
              refine x_iconst C (v := nI 5) dX4_findFault_43 (by decide +kernel) ?_
              refine x_icmp_neN C 51 dX4_findFault_44 (by decide) (by omega) (by omega) (fun c44 => ?_) (fun c44 => ?_)
              · have he2 : prs tx n 0 0 q0 r0 = prs tx m (i + 1) d2 (due d (tx i) q).2 r := by rw [he, prs, e]; simp only [if_neg c44]
                refine x_iinc C _ dX4_findFault_51 rfl (q_inc _) (by decide) [(2, _), (1, _), (0, _)] rfl ?_
                refine x_goto C 9 dX4_findFault_54 (by decide) ?_
                exact x_sub [2, 1, 0] (ih (i + 1) d2 (due d (tx i) q).2 r (by omega) hd2.1 (by rw [if_neg c44]; split at hc <;> omega) he2) rfl
              · have hcm : r.2.2.2 < 35 := by have := hd2.2; split at hc <;> omega
                have he2 : prs tx n 0 0 q0 r0 = prs tx m (i + 1) d2 (due d (tx i) q).2 (keepR (due d (tx i) q).2 r) := by rw [he, prs, e]; simp only [if_pos c44]
                refine x_aload_n C dX4_findFault_47 rfl ?_
                refine x_callV0v C (okX4_keepCommand A2 hcm) lkX4_35 miX4_keepCommand msX4_keepCommand maX4_keepCommand ⟨Nat.le_of_ble_eq_true rfl, Nat.le_of_ble_eq_true rfl⟩ (Nat.le_of_ble_eq_true rfl) A2.1 rfl dX4_findFault_48 ?_
                refine x_heap (scH_keep h n (due d (tx i) q).2 r (keepR (due d (tx i) q).2 r)) ?_
                refine x_iinc C _ dX4_findFault_51 rfl (q_inc _) (by decide) [(2, _), (1, _), (0, _)] rfl ?_
                refine x_goto C 9 dX4_findFault_54 (by decide) ?_
                exact x_sub [2, 1, 0] (ih (i + 1) d2 (due d (tx i) q).2 (keepR (due d (tx i) q).2 r) (by omega) hd2.1 (by rw [if_pos c44]; show 2 * (r.2.2.2 + 1) ≤ _; have := hd2.2; split at hc <;> omega) he2) rfl
            · exact absurd c37 (nI_m1 hd2.1)
  refine x_aload_n C dX4_findFault_0 rfl ?_
  refine x_iconst C (v := nI 0) dX4_findFault_1 (by decide +kernel) ?_
  refine x_putfield C qk4 5 (by decide) lfX4_28 rfl (ty0 := .int) (by decide +kernel) rfl rfl dX4_findFault_2 hs.1 (Nat.le_of_ble_eq_true rfl) ?_
  rw [show h.set 35 _ = scH h n q0 r0 by rw [hr0, hq0]; exact (scH_init hs n 0 (w, co, o, s)).symm]
  refine x_iconst C (v := nI 0) dX4_findFault_5 (by decide +kernel) ?_
  refine x_istore_n C dX4_findFault_6 (by decide) [(1, _), (0, _)] rfl ?_
  refine x_iconst C (v := nI 0) dX4_findFault_7 (by decide +kernel) ?_
  refine x_istore_n C dX4_findFault_8 (by decide) [(2, _), (1, _), (0, _)] rfl ?_
  exact x_sub [2, 1, 0] (L n 0 0 q0 r0 (by omega) (by decide) (by rw [hr0]; exact Nat.zero_le _) rfl) rfl
