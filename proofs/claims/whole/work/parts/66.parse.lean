/-! the two readers of a text are one (pure) -/
theorem prs_none {tx : Nat → Nat} {m i d : Nat} {q : qQ} {r : qR} (h : (due d (tx i) q).1 = none) : prs tx (m + 1) i d q r = (nI i, (due d (tx i) q).2, r) := by rw [prs, h]
theorem prs_some {tx : Nat → Nat} {m i d d2 : Nat} {q : qQ} {r : qR} (h : (due d (tx i) q).1 = some d2) : prs tx (m + 1) i d q r = prs tx m (i + 1) d2 (due d (tx i) q).2 (if d2 = 5 then keepR (due d (tx i) q).2 r else r) := by rw [prs, h]
theorem isL97 {c : Nat} (hc : c < 128) : isL (nI c - nI 97) = decide (97 ≤ c ∧ c ≤ 101) := (by decide +kernel : ∀ c : Fin 128, isL (nI c.1 - nI 97) = decide (97 ≤ c.1 ∧ c.1 ≤ 101)) ⟨c, hc⟩
theorem isL49 {c : Nat} (hc : c < 128) : isL (nI c - nI 49) = decide (49 ≤ c ∧ c ≤ 53) := (by decide +kernel : ∀ c : Fin 128, isL (nI c.1 - nI 49) = decide (49 ≤ c.1 ∧ c.1 ≤ 53)) ⟨c, hc⟩
theorem sqIn_y {co c : Nat} (hc : c < 128) (h : 49 ≤ c ∧ c ≤ 53) : sqIn (nI co) c = nI (5 * (c - 49) + co) := by
  unfold sqIn
  rw [isL49 hc, if_pos (decide_eq_true h), pk_sub h.1, pk_mul, nI_add, Nat.mul_comm]
theorem sqIn_n {co : Int32} {c : Nat} (hc : c < 128) (h : ¬ (49 ≤ c ∧ c ≤ 53)) : sqIn co c = -1 := by
  unfold sqIn
  rw [isL49 hc, if_neg (by rw [decide_eq_false h]; decide)]
theorem due3_y {c : Nat} {q : qQ} (hc : c < 128) (h : 97 ≤ c ∧ c ≤ 101) : due 3 c q = (some 4, (q.1, nI (c - 97), q.2.2.1, q.2.2.2)) := by
  unfold due
  rw [if_neg (by decide), if_neg (by decide), if_neg (by decide), if_pos rfl, isL97 hc, if_pos (decide_eq_true h), pk_sub h.1]
theorem due3_n {c : Nat} {q : qQ} (hc : c < 128) (h : ¬ (97 ≤ c ∧ c ≤ 101)) : (due 3 c q).1 = none := by
  unfold due
  rw [if_neg (by decide), if_neg (by decide), if_neg (by decide), if_pos rfl, isL97 hc, if_neg (by rw [decide_eq_false h]; decide)]
theorem due4_y {c co : Nat} {x y z : Int32} (hc : c < 128) (hco : co < 5) (h : 49 ≤ c ∧ c ≤ 53) : due 4 c (x, nI co, y, z) = (some 5, (x, nI co, y, nI (5 * (c - 49) + co))) := by
  unfold due
  rw [if_neg (by decide), if_neg (by decide), if_neg (by decide), if_neg (by decide), if_pos rfl]
  simp only []
  rw [sqIn_y hc h, if_neg (nI_pos (by omega))]
theorem due4_n {c : Nat} {q : qQ} (hc : c < 128) (h : ¬ (49 ≤ c ∧ c ≤ 53)) : (due 4 c q).1 = none := by
  unfold due
  rw [if_neg (by decide), if_neg (by decide), if_neg (by decide), if_neg (by decide), if_pos rfl]
  simp only []
  rw [sqIn_n hc h, if_pos (by decide)]
theorem due1_y {c co : Nat} {x y z : Int32} (hc : c < 128) (hco : co < 5) (h : 49 ≤ c ∧ c ≤ 53) : due 1 c (x, nI co, y, z) = (some 2, (x, nI co, nI (5 * (c - 49) + co), z)) := by
  unfold due
  rw [if_neg (by decide), if_pos rfl]
  simp only []
  rw [sqIn_y hc h, if_neg (nI_pos (by omega))]
theorem due1_n {c : Nat} {q : qQ} (hc : c < 128) (h : ¬ (49 ≤ c ∧ c ≤ 53)) : (due 1 c q).1 = none := by
  unfold due
  rw [if_neg (by decide), if_pos rfl]
  simp only []
  rw [sqIn_n hc h, if_pos (by decide)]
theorem due2_y {q : qQ} : due 2 45 q = (some 3, q) := by unfold due; rw [if_neg (by decide), if_neg (by decide), if_pos rfl, if_pos rfl]
theorem due2_n {c : Nat} {q : qQ} (h : c ≠ 45) : (due 2 c q).1 = none := by unfold due; rw [if_neg (by decide), if_neg (by decide), if_pos rfl, if_neg h]
theorem due5_y {q : qQ} : due 5 59 q = (some 0, q) := by
  unfold due
  rw [if_neg (by decide), if_neg (by decide), if_neg (by decide), if_neg (by decide), if_neg (by decide), if_pos rfl]
theorem due5_n {c : Nat} {q : qQ} (h : c ≠ 59) : (due 5 c q).1 = none := by
  unfold due
  rw [if_neg (by decide), if_neg (by decide), if_neg (by decide), if_neg (by decide), if_neg (by decide), if_neg h]
theorem due0 {c : Nat} {q : qQ} : due 0 c q = (dFd c, (dFw c, nI c - nI 97, -1, -1)) := by unfold due; rw [if_pos rfl]
theorem prs_end {tx : Nat → Nat} {n i d : Nat} {q : qQ} {r : qR} (hd : d ≠ 5) (h : ¬ i < n) (hi : i ≤ n) : (prs tx (n - i) i d q r).1 = nI i := by
  rw [show n - i = 0 by omega, prs]
  exact if_neg hd
theorem prs_bad {tx : Nat → Nat} {n i d : Nat} {q : qQ} {r : qR} (hi : i < n) (h : (due d (tx i) q).1 = none) : (prs tx (n - i) i d q r).1 = nI i := by
  rw [show n - i = (n - (i + 1)) + 1 by omega, prs_none h]
theorem prs_go {tx : Nat → Nat} {n i d d2 : Nat} {q q2 : qQ} {r : qR} (hi : i < n) (h : due d (tx i) q = (some d2, q2)) : prs tx (n - i) i d q r = prs tx (n - (i + 1)) (i + 1) d2 q2 (if d2 = 5 then keepR q2 r else r) := by
  rw [show n - i = (n - (i + 1)) + 1 by omega, prs_some (d2 := d2) (by rw [h]), h]
theorem sqr_w {tx : Nat → Nat} {n i : Nat} : sqr tx n i true = (i, true, 0) := by unfold sqr; rw [sgn_w]; simp only []; rw [sgn_w]; rfl
theorem sqr_yy {tx : Nat → Nat} {n i : Nat} (h1 : i < n ∧ 97 ≤ tx i ∧ tx i ≤ 101) (h2 : i + 1 < n ∧ 49 ≤ tx (i + 1) ∧ tx (i + 1) ≤ 53) : sqr tx n i false = (i + 2, false, 5 * (tx (i + 1) - 49) + (tx i - 97)) := by
  unfold sqr
  rw [sgn_y h1.1 h1.2.1 h1.2.2]
  simp only []
  rw [sgn_y h2.1 h2.2.1 h2.2.2]
theorem sqr_yn {tx : Nat → Nat} {n i : Nat} (h1 : i < n ∧ 97 ≤ tx i ∧ tx i ≤ 101) (h2 : ¬ (i + 1 < n ∧ 49 ≤ tx (i + 1) ∧ tx (i + 1) ≤ 53)) : (sqr tx n i false).1 = i + 1 ∧ (sqr tx n i false).2.1 = true := by
  unfold sqr
  rw [sgn_y h1.1 h1.2.1 h1.2.2]
  simp only []
  rw [sgn_n h2]
  exact ⟨rfl, rfl⟩
theorem sqr_n {tx : Nat → Nat} {n i : Nat} (h1 : ¬ (i < n ∧ 97 ≤ tx i ∧ tx i ≤ 101)) : (sqr tx n i false).1 = i ∧ (sqr tx n i false).2.1 = true := by
  unfold sqr
  rw [sgn_n h1]
  simp only []
  rw [sgn_w]
  exact ⟨rfl, rfl⟩
/-- a square behind a command's first sign -/
theorem sq3 {tx : Nat → Nat} {n : Nat} (ht : ∀ i, tx i < 128) {i : Nat} (hi : i ≤ n) (q : qQ) (r : qR) :
    ((sqr tx n i false).2.1 = true → (prs tx (n - i) i 3 q r).1 = nI (sqr tx n i false).1) ∧
    ((sqr tx n i false).2.1 = false → ∃ co, i < (sqr tx n i false).1 ∧ (sqr tx n i false).1 ≤ n ∧ prs tx (n - i) i 3 q r = prs tx (n - (sqr tx n i false).1) (sqr tx n i false).1 5 (q.1, co, q.2.2.1, nI (sqr tx n i false).2.2) (keepR (q.1, co, q.2.2.1, nI (sqr tx n i false).2.2) r)) := by
  by_cases h1 : i < n ∧ 97 ≤ tx i ∧ tx i ≤ 101
  · have g1 := prs_go (r := r) h1.1 (due3_y (q := q) (ht i) h1.2)
    rw [if_neg (by decide)] at g1
    by_cases h2 : i + 1 < n ∧ 49 ≤ tx (i + 1) ∧ tx (i + 1) ≤ 53
    · rw [sqr_yy h1 h2]
      refine ⟨fun z => (by cases z), fun _ => ⟨nI (tx i - 97), by simp only []; omega, by simp only []; omega, ?_⟩⟩
      rw [g1, prs_go h2.1 (due4_y (ht (i + 1)) (show tx i - 97 < 5 by omega) h2.2), if_pos rfl]
    · obtain ⟨e1, e2⟩ := sqr_yn h1 h2
      rw [e1, e2]
      refine ⟨fun _ => ?_, fun z => by cases z⟩
      rw [g1]
      by_cases hn : i + 1 < n
      · exact prs_bad hn (due4_n (ht _) (fun z => h2 ⟨hn, z⟩))
      · exact prs_end (by decide) hn (by omega)
  · obtain ⟨e1, e2⟩ := sqr_n h1
    rw [e1, e2]
    refine ⟨fun _ => ?_, fun z => by cases z⟩
    by_cases hn : i < n
    · exact prs_bad hn (due3_n (ht _) (fun z => h1 ⟨hn, z⟩))
    · exact prs_end (by decide) hn hi
theorem n8 {m : Nat} (h : m < 8) (k : Nat) (hk : 8 ≤ k) (hk2 : k < 100) : ¬ nI m = nI k := fun z => by have := (nI_eq (by omega) (by omega)).mp z; omega
theorem ord_put {m v : Nat} {y : Int32} (h1 : m ≠ 0) (h2 : m < 8) (hv : v < 25) : OrdR (nI m) y (nI v) m v 0 := by
  refine ⟨⟨by omega, by omega, hv, by decide⟩, fun a c Tk => ?_⟩
  unfold cmdO cmdN
  rw [if_neg (n8 h2 8 (by decide) (by decide)), if_neg (n8 h2 9 (by decide) (by decide)), if_neg (n8 h2 10 (by decide) (by decide)), if_neg (n8 h2 11 (by decide) (by decide)), if_neg (n8 h2 12 (by decide) (by decide)), if_pos h2]
theorem ord_lift {v : Nat} {y : Int32} (hv : v < 25) : OrdR (nI 8) y (nI v) 8 v 0 := by
  refine ⟨⟨by decide, by decide, hv, by decide⟩, fun a c Tk => ?_⟩
  unfold cmdO cmdN
  rw [if_pos rfl, if_neg (by decide), if_pos rfl]
theorem ord_play {v u : Nat} (hv : v < 25) (hu : u < 25) : OrdR (nI 9) (nI v) (nI u) 9 v u := by
  refine ⟨⟨by decide, by decide, hv, hu⟩, fun a c Tk => ?_⟩
  unfold cmdO cmdN
  rw [if_neg (by decide), if_pos rfl, if_neg (by decide), if_neg (by decide), if_pos rfl]
theorem ord_tms {c : Nat} (h : c = 116 ∨ c = 109 ∨ c = 115) {y s : Int32} : OrdR (dFw c) y s (tmsN c) 0 0 := by
  rcases h with rfl | rfl | rfl
  · refine ⟨⟨by decide, by decide, by decide, by decide⟩, fun a c Tk => ?_⟩
    rw [show dFw 116 = nI 10 by decide +kernel, show tmsN 116 = 10 by decide]
    unfold cmdO cmdN
    rw [if_neg (by decide), if_neg (by decide), if_pos rfl, if_neg (by decide), if_neg (by decide), if_neg (by decide), if_neg (by decide), if_neg (by decide)]
  · refine ⟨⟨by decide, by decide, by decide, by decide⟩, fun a c Tk => ?_⟩
    rw [show dFw 109 = nI 11 by decide +kernel, show tmsN 109 = 11 by decide]
    unfold cmdO cmdN
    rw [if_neg (by decide), if_neg (by decide), if_neg (by decide), if_pos rfl, if_neg (by decide), if_neg (by decide), if_neg (by decide), if_neg (by decide), if_pos rfl]
  · refine ⟨⟨by decide, by decide, by decide, by decide⟩, fun a c Tk => ?_⟩
    rw [show dFw 115 = nI 12 by decide +kernel, show tmsN 115 = 12 by decide]
    unfold cmdO cmdN
    rw [if_neg (by decide), if_neg (by decide), if_neg (by decide), if_neg (by decide), if_pos rfl, if_neg (by decide), if_neg (by decide), if_neg (by decide), if_pos rfl]
/-- by its first sign, what a command is: the two tables are one -/
theorem first_man {c : Nat} (hc : c < 128) (hm : manI c ≠ 0) : dFd c = some 3 ∧ dFw c = nI (manI c) :=
  (by decide +kernel : ∀ c : Fin 128, manI c.1 ≠ 0 → dFd c.1 = some 3 ∧ dFw c.1 = nI (manI c.1)) ⟨c, hc⟩ hm
theorem first_45 : dFd 45 = some 3 ∧ dFw 45 = nI 8 := by decide +kernel
theorem first_ply {c : Nat} (h : 97 ≤ c ∧ c ≤ 101) : dFd c = some 1 ∧ dFw c = nI 9 :=
  (by decide +kernel : ∀ c : Fin 128, 97 ≤ c.1 ∧ c.1 ≤ 101 → dFd c.1 = some 1 ∧ dFw c.1 = nI 9) ⟨c, by omega⟩ h
theorem first_tms {c : Nat} (h : c = 116 ∨ c = 109 ∨ c = 115) : dFd c = some 5 := by rcases h with rfl | rfl | rfl <;> decide +kernel
theorem first_no {c : Nat} (hc : c < 128) (h1 : manI c = 0) (h2 : c ≠ 45) (h3 : ¬ (97 ≤ c ∧ c ≤ 101)) (h4 : ¬ (c = 116 ∨ c = 109 ∨ c = 115)) : dFd c = none :=
  (by decide +kernel : ∀ c : Fin 128, manI c.1 = 0 → c.1 ≠ 45 → ¬ (97 ≤ c.1 ∧ c.1 ≤ 101) → ¬ (c.1 = 116 ∨ c.1 = 109 ∨ c.1 = 115) → dFd c.1 = none) ⟨c, hc⟩ h1 h2 h3 h4
/-- one command, read by both -/
def StpR (tx : Nat → Nat) (n i : Nat) (q : qQ) (r : qR) (od : Nat → Nat) (o : Nat) (z : qO4) : Prop :=
  (z.2.1 = true → (prs tx (n - i) i 0 q r).1 = nI z.1) ∧
  (z.2.1 = false → ∃ (q2 : qQ) (w f s : Nat), i < z.1 ∧ z.1 ≤ n ∧ prs tx (n - i) i 0 q r = prs tx (n - z.1) z.1 5 q2 (keepR q2 r) ∧ z.2.2.1 = ordF od o w f s ∧ z.2.2.2 = o + 1 ∧ OrdR q2.1 q2.2.2.1 q2.2.2.2 w f s)
theorem stpR {tx : Nat → Nat} {n : Nat} (ht : ∀ i, tx i < 128) {i : Nat} (hi : i ≤ n) (q : qQ) (r : qR) (od : Nat → Nat) (o : Nat) : StpR tx n i q r od o (roF tx n i od o) := by
  have hcp := chA_pos (tx := tx) (n := n) (a0 := i)
  unfold roF
  by_cases hm : manI (chA tx n i) ≠ 0
  · obtain ⟨hlt, hce⟩ := hcp (fun z => hm (by rw [z]; rfl))
    rw [if_pos hm]
    rw [hce] at hm ⊢
    obtain ⟨f1, f2⟩ := first_man (ht i) hm
    have g := prs_go (r := r) hlt (show due 0 (tx i) q = (some 3, (nI (manI (tx i)), nI (tx i) - nI 97, -1, -1)) by rw [due0, f1, f2])
    rw [if_neg (by decide)] at g
    obtain ⟨s1, s2⟩ := sq3 (n := n) ht (show i + 1 ≤ n from hlt) (nI (manI (tx i)), nI (tx i) - nI 97, -1, -1) r
    have hb := sqr_b (tx := tx) (wr := false) (show i + 1 ≤ n from hlt)
    refine ⟨fun z => by rw [g]; exact s1 z, fun z => ?_⟩
    obtain ⟨co, p1, p2, p3⟩ := s2 z
    exact ⟨_, manI (tx i), (sqr tx n (i + 1) false).2.2, 0, by simp only []; omega, p2, g.trans p3, rfl, rfl, ord_put hm (manI_lt _) hb.2.2⟩
  · rw [if_neg hm]
    by_cases h45 : chA tx n i = 45
    · obtain ⟨hlt, hce⟩ := hcp (by omega)
      rw [if_pos h45]
      have h45' : tx i = 45 := hce.symm.trans h45
      have g := prs_go (r := r) hlt (show due 0 (tx i) q = (some 3, (nI 8, nI (tx i) - nI 97, -1, -1)) by rw [due0, h45', first_45.1, first_45.2])
      rw [if_neg (by decide)] at g
      obtain ⟨s1, s2⟩ := sq3 (n := n) ht (show i + 1 ≤ n from hlt) (nI 8, nI (tx i) - nI 97, -1, -1) r
      have hb := sqr_b (tx := tx) (wr := false) (show i + 1 ≤ n from hlt)
      refine ⟨fun z => by rw [g]; exact s1 z, fun z => ?_⟩
      obtain ⟨co, p1, p2, p3⟩ := s2 z
      exact ⟨_, 8, (sqr tx n (i + 1) false).2.2, 0, by simp only []; omega, p2, g.trans p3, rfl, rfl, ord_lift hb.2.2⟩
    · rw [if_neg h45]
      by_cases hp : 97 ≤ chA tx n i ∧ chA tx n i ≤ 101
      · obtain ⟨hlt, hce⟩ := hcp (by omega)
        rw [if_pos hp]
        rw [hce] at hp
        obtain ⟨f1, f2⟩ := first_ply hp
        have g := prs_go (r := r) hlt (show due 0 (tx i) q = (some 1, (nI 9, nI (tx i - 97), -1, -1)) by rw [due0, f1, f2, pk_sub hp.1])
        rw [if_neg (by decide)] at g
        by_cases h2 : i + 1 < n ∧ 49 ≤ tx (i + 1) ∧ tx (i + 1) ≤ 53
        · have e0 := sqr_yy ⟨hlt, hp.1, hp.2⟩ h2
          have g2 := prs_go (r := r) h2.1 (due1_y (x := nI 9) (y := -1) (z := -1) (ht (i + 1)) (show tx i - 97 < 5 by omega) h2.2)
          rw [if_neg (by decide)] at g2
          by_cases h3 : i + 2 < n ∧ 45 ≤ tx (i + 2) ∧ tx (i + 2) ≤ 45
          · have e1 : plyA tx n i = (i + 3, false, tx (i + 2) - 45) := by unfold plyA; rw [e0]; exact sgn_y h3.1 h3.2.1 h3.2.2
            have e2 : plyB tx n i = sqr tx n (i + 3) false := by unfold plyB; rw [e1]
            have h45' : tx (i + 2) = 45 := by omega
            have g3 := prs_go (r := r) h3.1 (show due 2 (tx (i + 2)) (nI 9, nI (tx i - 97), nI (5 * (tx (i + 1) - 49) + (tx i - 97)), -1) = _ by rw [h45']; exact due2_y)
            rw [if_neg (by decide)] at g3
            obtain ⟨s1, s2⟩ := sq3 (n := n) ht (show i + 3 ≤ n by omega) (nI 9, nI (tx i - 97), nI (5 * (tx (i + 1) - 49) + (tx i - 97)), -1) r
            have hb := sqr_b (tx := tx) (wr := false) (show i + 3 ≤ n by omega)
            rw [e2, e0]
            refine ⟨fun z => by rw [g, g2, g3]; exact s1 z, fun z => ?_⟩
            obtain ⟨co, p1, p2, p3⟩ := s2 z
            exact ⟨_, 9, 5 * (tx (i + 1) - 49) + (tx i - 97), (sqr tx n (i + 3) false).2.2, by simp only []; omega, p2, (g.trans (g2.trans g3)).trans p3, rfl, rfl, ord_play (by omega) hb.2.2⟩
          · have e1 : plyA tx n i = (i + 2, true, 0) := by unfold plyA; rw [e0]; exact sgn_n h3
            have e2 : plyB tx n i = (i + 2, true, 0) := by unfold plyB; rw [e1]; exact sqr_w
            rw [e2]
            refine ⟨fun _ => ?_, fun z => by cases z⟩
            rw [g, g2]
            by_cases hn : i + 2 < n
            · exact prs_bad hn (due2_n (show tx (i + 2) ≠ 45 from fun z => h3 ⟨hn, by omega, by omega⟩))
            · exact prs_end (by decide) hn (by omega)
        · obtain ⟨e0, e00⟩ := sqr_yn ⟨hlt, hp.1, hp.2⟩ h2
          have e1 : plyA tx n i = (i + 1, true, 0) := by unfold plyA; rw [e0, e00]; exact sgn_w
          have e2 : plyB tx n i = (i + 1, true, 0) := by unfold plyB; rw [e1]; exact sqr_w
          rw [e2]
          refine ⟨fun _ => ?_, fun z => by cases z⟩
          rw [g]
          by_cases hn : i + 1 < n
          · exact prs_bad hn (due1_n (ht _) (fun z => h2 ⟨hn, z⟩))
          · exact prs_end (by decide) hn (by omega)
      · rw [if_neg hp]
        by_cases h3 : chA tx n i = 116 ∨ chA tx n i = 109 ∨ chA tx n i = 115
        · obtain ⟨hlt, hce⟩ := hcp (by omega)
          rw [if_pos h3]
          rw [hce] at h3 ⊢
          have g := prs_go (r := r) hlt (show due 0 (tx i) q = (some 5, (dFw (tx i), nI (tx i) - nI 97, -1, -1)) by rw [due0, first_tms h3])
          rw [if_pos rfl] at g
          refine ⟨fun z => (by cases z), fun _ => ?_⟩
          exact ⟨_, tmsN (tx i), 0, 0, by simp only []; omega, hlt, g, rfl, rfl, ord_tms h3⟩
        · rw [if_neg h3]
          refine ⟨fun _ => ?_, fun z => by cases z⟩
          by_cases hn : i < n
          · have hce : chA tx n i = tx i := by unfold chA; rw [if_pos hn]
            rw [hce] at hm h45 hp h3
            refine prs_bad hn ?_
            rw [due0]
            exact first_no (ht i) (Classical.not_not.mp hm) h45 hp h3
          · exact prs_end (by decide) hn hi
/-- the commands that were read so far are the same -/
def CmdsR (r : qR) (od : Nat → Nat) (o : Nat) : Prop := r.2.2.2 = o ∧ ∀ k, k < o → OrdR (r.1 k) (r.2.1 k) (r.2.2.1 k) (od (3 * k)) (od (3 * k + 1)) (od (3 * k + 2))
theorem CmdsR.add {r : qR} {od : Nat → Nat} {o : Nat} (h : CmdsR r od o) {q2 : qQ} {w f s : Nat} (ho : OrdR q2.1 q2.2.2.1 q2.2.2.2 w f s) : CmdsR (keepR q2 r) (ordF od o w f s) (o + 1) := by
  obtain ⟨h1, h2⟩ := h
  unfold keepR
  refine ⟨by simp only []; rw [h1], fun k hk => ?_⟩
  simp only []
  rw [h1]
  by_cases e : k = o
  · subst e
    unfold ordF upd
    rw [if_pos rfl, if_pos rfl, if_pos rfl, up_ne _ (by omega), up_ne _ (by omega), up_at, up_ne _ (by omega), up_at, up_at]
    exact ho
  · unfold ordF upd
    rw [if_neg e, if_neg e, if_neg e, up_ne _ (by omega), up_ne _ (by omega), up_ne _ (by omega), up_ne _ (by omega), up_ne _ (by omega), up_ne _ (by omega), up_ne _ (by omega), up_ne _ (by omega), up_ne _ (by omega)]
    exact h2 k (by omega)
def FinR (tx : Nat → Nat) (n : Nat) (x : Int32 × qQ × qR) (z : qO4) : Prop :=
  ((z.2.1 = true ∨ z.1 < n) → x.1 = nI z.1) ∧ (¬ (z.2.1 = true ∨ z.1 < n) → x.1 = -1 ∧ CmdsR x.2.2 z.2.2.1 z.2.2.2)
theorem rd_rel {tx : Nat → Nat} {n : Nat} (ht : ∀ i, tx i < 128) : ∀ m i (q : qQ) (r : qR) (od : Nat → Nat) o, i ≤ n → n < i + m → CmdsR r od o → FinR tx n (prs tx (n - i) i 5 q r) (rdS tx n m i false od o) := by
  intro m
  induction m with
  | zero => intro i q r od o h1 h2 _; exact absurd h2 (by omega)
  | succ m ih =>
    intro i q r od o h1 h2 hc
    by_cases hn : i < n
    · by_cases h59 : tx i = 59
      · have g := prs_go (r := r) hn (show due 5 (tx i) q = (some 0, q) by rw [h59]; exact due5_y)
        rw [if_neg (by decide)] at g
        obtain ⟨s1, s2⟩ := stpR ht (show i + 1 ≤ n from hn) q r od o
        rw [g, rdS, if_pos (hereB_i hn (by omega) (by omega))]
        generalize roF tx n (i + 1) od o = z at s1 s2
        obtain ⟨z1, z2, z3, z4⟩ := z
        simp only [] at s1 s2 ⊢
        cases z2 with
        | true =>
          have e : rdS tx n m z1 true z3 z4 = (z1, true, z3, z4) := by
            cases m with
            | zero => rfl
            | succ m => rw [rdS, if_neg (by rw [hereB_w]; decide)]
          rw [e]
          exact ⟨fun _ => s1 rfl, fun z => absurd (Or.inl rfl) z⟩
        | false =>
          obtain ⟨q2, w, f, s, p1, p2, p3, p4, p5, p6⟩ := s2 rfl
          rw [p3]
          subst p4 p5
          exact ih z1 q2 (keepR q2 r) (ordF od o w f s) (o + 1) p2 (by omega) (hc.add p6)
      · have e : rdS tx n (m + 1) i false od o = (i, false, od, o) := by rw [rdS, if_neg (by rw [hereB_n (fun z => h59 (by omega))]; decide)]
        rw [e]
        exact ⟨fun _ => prs_bad hn (due5_n h59), fun z => absurd (Or.inr hn) z⟩
    · have e : rdS tx n (m + 1) i false od o = (i, false, od, o) := by rw [rdS, if_neg (by rw [hereB_n (fun z => hn z.1)]; decide)]
      rw [e, show n - i = 0 by omega, prs]
      refine ⟨fun z => ?_, fun _ => ⟨rfl, hc⟩⟩
      exact absurd z (fun y => y.elim (fun p => by cases p) (fun p => hn p))
theorem read_rel {tx : Nat → Nat} {n : Nat} (ht : ∀ i, tx i < 128) (q : qQ) (r : qR) (h0 : r.2.2.2 = 0) (od : Nat → Nat) : FinR tx n (prs tx n 0 0 q r) (pzF tx n od) := by
  obtain ⟨s1, s2⟩ := stpR (n := n) ht (Nat.zero_le n) q r od 0
  rw [Nat.sub_zero] at s1 s2
  unfold pzF
  generalize roF tx n 0 od 0 = z at s1 s2
  obtain ⟨z1, z2, z3, z4⟩ := z
  simp only [] at s1 s2 ⊢
  cases z2 with
  | true =>
    have e : rdS tx n (n + 1) z1 true z3 z4 = (z1, true, z3, z4) := by rw [rdS, if_neg (by rw [hereB_w]; decide)]
    rw [e]
    exact ⟨fun _ => s1 rfl, fun z => absurd (Or.inl rfl) z⟩
  | false =>
    obtain ⟨q2, w, f, s, p1, p2, p3, p4, p5, p6⟩ := s2 rfl
    rw [p3]
    subst p4 p5
    exact rd_rel ht (n + 1) z1 q2 (keepR q2 r) (ordF od 0 w f s) 1 p2 (by omega) (CmdsR.add ⟨h0, fun k hk => absurd hk (by omega)⟩ p6)
