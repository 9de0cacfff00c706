def colL (b : Nat → Nat) (r : Nat) : Nat → Nat → List Int32
  | 0, _ => []
  | m + 1, c => strC 0 (b (r * 5 + c)) :: colL b r m (c + 1)
def rowsL (b : Nat → Nat) : Nat → List Int32
  | 0 => []
  | r + 1 => colL b r 5 0 ++ ((if r = 0 then [] else [nI 47]) ++ rowsL b r)
theorem colL_len (b : Nat → Nat) (r : Nat) : ∀ m c, (colL b r m c).length = m
  | 0, _ => rfl
  | m + 1, c => by simp only [colL, List.length_cons, colL_len b r m (c + 1)]
theorem rowsL_len (b : Nat → Nat) : ∀ r, (rowsL b (r + 1)).length = 6 * r + 5
  | 0 => by simp [rowsL, colL_len]
  | r + 1 => by
    have h := rowsL_len b r
    rw [rowsL, List.length_append, List.length_append, colL_len, h, if_neg (by omega)]
    simp only [List.length_cons, List.length_nil]
    omega
set_option maxHeartbeats 4000000 in
set_option maxRecDepth 100000 in
theorem okX5_show {a b c d : qP} {Hs : qHs} {T : qTs} {S : qSs} {V : qVs} {ms : qms} {mr : qmr} {mm : qmm} {ml : qml} {mt : qmt} {g : Nat → Int32} {n : Nat} (ha : Bd a.1) : Ok MX5_show [.ref 0] (HH (a, b, c, d) Hs T (g, n) S V ms mr mm ml mt) (some (.int (nI (rowsL a.1 5).length))) (HH (a, b, c, d) Hs T (wrt g 0 (rowsL a.1 5), (rowsL a.1 5).length) S V ms mr mm ml mt) := by
  refine ok_of (by decide +kernel) (Nat.zero_le _) (Nat.le_of_ble_eq_true rfl) ?_
  intro X C E
  show Ex X MX5_show 0 [(0, .ref 0)] [] (HH (a, b, c, d) Hs T (g, n) S V ms mr mm ml mt)
  obtain ⟨R, hR⟩ : ∃ R, R = rowsL a.1 5 := ⟨_, rfl⟩
  have hRl : R.length = 29 := by rw [hR]; exact rowsL_len a.1 4
  rw [← hR] at E
  have L1 : ∀ r : Nat, ∀ p : List Int32, r ≤ 5 → R = p ++ rowsL a.1 r → Ex X MX5_show 9 [(0, .ref 0), (1, .int (sqm r))] [] (HH (a, b, c, d) Hs T (wrt g 0 p, p.length) S V ms mr mm ml mt) := by
    intro r
    induction r with
    | zero =>
      intro p hr he
      have hp : R = p := by rw [he, rowsL, List.append_nil]
      rw [← hp]
      refine x_iload_n C dX5_show_9 rfl ?_
      refine x_if_lt C 64 dX5_show_10 (by decide) (fun c10 => ?_) (fun c10 => ?_)
      · refine x_aload_n C dX5_show_64 rfl ?_
        refine x_getfield C qk5 10 (by decide) lfX5_52 dX5_show_65 rfl rfl ?_
        refine x_getfield C qk1 1 (by decide) lfX5_187 dX5_show_68 rfl rfl ?_
        exact x_iret E .int dX5_show_71 rfl rfl rfl rfl
      · exact absurd (by decide : (-1 : Int32) < 0) c10
    | succ r ih =>
      intro p hr he
      rw [rowsL] at he
      rw [sqm_s]
      have L2 : ∀ m k : Nat, ∀ p : List Int32, k + m = 5 → R = p ++ (colL a.1 r m k ++ ((if r = 0 then [] else [nI 47]) ++ rowsL a.1 r)) → Ex X MX5_show 15 [(0, .ref 0), (1, .int (nI r)), (2, .int (nI k))] [] (HH (a, b, c, d) Hs T (wrt g 0 p, p.length) S V ms mr mm ml mt) := by
        intro m
        induction m with
        | zero =>
          intro k p hc he
          have hlen := congrArg List.length he
          rw [List.length_append, List.length_append, List.length_append, hRl, colL_len] at hlen
          simp only [colL, List.nil_append] at he
          refine x_iload_n C dX5_show_15 rfl ?_
          refine x_iconst C (v := nI 5) dX5_show_16 (by decide +kernel) ?_
          refine x_icmp_geN C 45 dX5_show_17 (by decide) (by omega) (by omega) (fun c17 => ?_) (fun c17 => ?_)
          · refine x_iload_n C dX5_show_45 rfl ?_
            refine x_if_leN C 58 dX5_show_46 (by decide) (by omega) (fun c46 => ?_) (fun c46 => ?_)
            · rw [if_pos c46] at he
              refine x_iinc C _ dX5_show_58 rfl (q_decm _) (by decide) [(1, _), (0, _), (2, _)] rfl ?_
              refine x_goto C 9 dX5_show_61 (by decide) ?_
              exact x_sub [1, 0] (ih p (by omega) (by rw [he, List.nil_append])) rfl
            · rw [if_neg c46] at he
              refine x_aload_n C dX5_show_49 rfl ?_
              refine x_getfield C qk5 10 (by decide) lfX5_52 dX5_show_50 rfl rfl ?_
              refine x_bipush C (v := nI 47) dX5_show_53 (by decide +kernel) ?_
              refine x_callV1v C (okX1_write LineA_HH (by rw [if_neg c46, List.length_cons, List.length_nil] at hlen; omega) _) lkX5_184 miX1_write msX1_write maX1_write ⟨Nat.le_of_ble_eq_true rfl, Nat.le_of_ble_eq_true rfl⟩ (Nat.le_of_ble_eq_true rfl) rfl rfl dX5_show_55 ?_
              refine x_heap setL_HH ?_
              rw [show upd (wrt g 0 p) p.length (nI 47) = wrt g 0 (p ++ [nI 47]) by rw [wrt_app, Nat.zero_add], show p.length + 1 = (p ++ [nI 47]).length by rw [List.length_append]; rfl]
              refine x_iinc C _ dX5_show_58 rfl (q_decm _) (by decide) [(1, _), (0, _), (2, _)] rfl ?_
              refine x_goto C 9 dX5_show_61 (by decide) ?_
              exact x_sub [1, 0] (ih (p ++ [nI 47]) (by omega) (by rw [he, List.append_assoc])) rfl
          · exact absurd c17 (by omega)
        | succ m ih2 =>
          intro k p hc he
          have hcl : k < 5 := by omega
          have hac := ha.1 (r * 5 + k)
          have hlen := congrArg List.length he
          rw [List.length_append, List.length_append, hRl, colL_len] at hlen
          rw [colL, List.cons_append] at he
          refine x_iload_n C dX5_show_15 rfl ?_
          refine x_iconst C (v := nI 5) dX5_show_16 (by decide +kernel) ?_
          refine x_icmp_geN C 45 dX5_show_17 (by decide) (by omega) (by omega) (fun c17 => ?_) (fun c17 => ?_)
          · exact absurd c17 (by omega)
          · refine x_aload_n C dX5_show_20 rfl ?_
            refine x_getfield C qk5 10 (by decide) lfX5_52 dX5_show_21 rfl rfl ?_
            refine x_aload_n C dX5_show_24 rfl ?_
            refine x_getfield C qk5 0 (by decide) lfX5_12 dX5_show_25 rfl rfl ?_
            refine x_iload_n C dX5_show_28 rfl ?_
            refine x_iconst C (v := nI 5) dX5_show_29 (by decide +kernel) ?_
            refine x_imulN C dX5_show_30 ?_
            refine x_iload_n C dX5_show_31 rfl ?_
            refine x_iaddN C dX5_show_32 ?_
            refine x_callV1i C (okX3_manOn PosA_now (show r * 5 + k < 25 by omega)) lkX5_99 miX3_manOn msX3_manOn maX3_manOn ⟨Nat.le_of_ble_eq_true rfl, Nat.le_of_ble_eq_true rfl⟩ (Nat.le_of_ble_eq_true rfl) rfl rfl dX5_show_33 ?_
            refine x_callV1v C (okX1_writeMan LineA_HH (by omega) hac) lkX5_180 miX1_writeMan msX1_writeMan maX1_writeMan ⟨Nat.le_of_ble_eq_true rfl, Nat.le_of_ble_eq_true rfl⟩ (Nat.le_of_ble_eq_true rfl) rfl rfl dX5_show_36 ?_
            refine x_heap setL_HH ?_
            rw [show upd (wrt g 0 p) p.length (strC 0 (a.1 (r * 5 + k))) = wrt g 0 (p ++ [strC 0 (a.1 (r * 5 + k))]) by rw [wrt_app, Nat.zero_add], show p.length + 1 = (p ++ [strC 0 (a.1 (r * 5 + k))]).length by rw [List.length_append]; rfl]
            refine x_iinc C _ dX5_show_39 rfl (q_inc _) (by decide) [(2, _), (0, _), (1, _)] rfl ?_
            refine x_goto C 15 dX5_show_42 (by decide) ?_
            exact x_sub [1, 2, 0] (ih2 (k + 1) (p ++ [strC 0 (a.1 (r * 5 + k))]) (by omega) (by rw [he, List.append_assoc]; rfl)) rfl
      refine x_iload_n C dX5_show_9 rfl ?_
      refine x_if_ltN C 64 dX5_show_10 (by decide) (by omega) ?_
      refine x_iconst C (v := nI 0) dX5_show_13 (by decide +kernel) ?_
      refine x_istore_n C dX5_show_14 (by decide) [(2, _), (0, _), (1, _)] rfl ?_
      exact x_sub [1, 2, 0] (L2 5 0 p (by omega) he) rfl
  refine x_aload_n C dX5_show_0 rfl ?_
  refine x_getfield C qk5 10 (by decide) lfX5_52 dX5_show_1 rfl rfl ?_
  refine x_callV0v C (okX1_clear LineA_HH) lkX5_177 miX1_clear msX1_clear maX1_clear ⟨Nat.le_of_ble_eq_true rfl, Nat.le_of_ble_eq_true rfl⟩ (Nat.le_of_ble_eq_true rfl) rfl rfl dX5_show_4 ?_
  refine x_heap setL_HH ?_
  refine x_iconst C (v := nI 4) dX5_show_7 (by decide +kernel) ?_
  refine x_istore_n C dX5_show_8 (by decide) [(1, _), (0, _)] rfl ?_
  exact x_sub [1, 0] (L1 5 [] (by omega) (by rw [List.nil_append]; exact hR)) rfl
