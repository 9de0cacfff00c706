/-! the law's calls, one by one: both answer the same and keep what holds -/
def CaseOk (N5 N6 : qM) (xs : List Value) : Prop := ∀ h, Inv h → ∃ (v : Int32) (h1 h2 : qH), Ok N5 (.ref 0 :: xs) h (some (.int v)) h1 ∧ Ok N6 (.ref 40 :: xs) h1 (some (.int v)) h2 ∧ Inv h2
set_option maxHeartbeats 4000000 in
set_option maxRecDepth 100000 in
theorem case_put (x y : Int32) : CaseOk MX5_put MX6_put [.int x, .int y] := by
  sorry
set_option maxHeartbeats 4000000 in
set_option maxRecDepth 100000 in
theorem case_lift (y : Int32) : CaseOk MX5_lift MX6_lift [.int y] := by
  sorry
set_option maxHeartbeats 4000000 in
set_option maxRecDepth 100000 in
theorem case_play (x y : Int32) : CaseOk MX5_play MX6_play [.int x, .int y] := by
  sorry
set_option maxHeartbeats 4000000 in
set_option maxRecDepth 100000 in
theorem case_turn : CaseOk MX5_turn MX6_turn [] := by
  sorry
set_option maxHeartbeats 4000000 in
set_option maxRecDepth 100000 in
theorem case_mirror : CaseOk MX5_mirror MX6_mirror [] := by
  sorry
set_option maxHeartbeats 4000000 in
set_option maxRecDepth 100000 in
theorem case_thrift : CaseOk MX5_thrift MX6_thrift [] := by
  sorry
set_option maxHeartbeats 4000000 in
set_option maxRecDepth 100000 in
theorem case_at (x : Int32) : CaseOk MX5_at MX6_at [.int x] := by
  sorry
set_option maxHeartbeats 4000000 in
set_option maxRecDepth 100000 in
theorem case_attackers (x : Int32) : CaseOk MX5_attackers MX6_attackers [.int x] := by
  sorry
set_option maxHeartbeats 4000000 in
set_option maxRecDepth 100000 in
theorem case_attackersAgain (x : Int32) : CaseOk MX5_attackersAgain MX6_attackersAgain [.int x] := by
  sorry
set_option maxHeartbeats 4000000 in
set_option maxRecDepth 100000 in
theorem case_manOf (x y : Int32) : CaseOk MX5_manOf MX6_manOf [.int x, .int y] := by
  sorry
set_option maxHeartbeats 4000000 in
set_option maxRecDepth 100000 in
theorem case_move (x : Int32) : CaseOk MX5_move MX6_move [.int x] := by
  sorry
set_option maxHeartbeats 4000000 in
set_option maxRecDepth 100000 in
theorem case_escapes : CaseOk MX5_escapes MX6_escapes [] := by
  sorry
set_option maxHeartbeats 4000000 in
set_option maxRecDepth 100000 in
theorem case_isFit : CaseOk MX5_isFit MX6_isFit [] := by
  sorry
set_option maxHeartbeats 4000000 in
set_option maxRecDepth 100000 in
theorem case_key (x : Int32) : CaseOk MX5_key MX6_key [.int x] := by
  sorry
set_option maxHeartbeats 4000000 in
set_option maxRecDepth 100000 in
theorem case_kind (x y : Int32) : CaseOk MX5_kind MX6_kind [.int x, .int y] := by
  sorry
set_option maxHeartbeats 4000000 in
set_option maxRecDepth 100000 in
theorem case_refutation (x y : Int32) : CaseOk MX5_refutation MX6_refutation [.int x, .int y] := by
  sorry
set_option maxHeartbeats 4000000 in
set_option maxRecDepth 100000 in
theorem case_many (x : Int32) : CaseOk MX5_many MX6_many [.int x] := by
  sorry
set_option maxHeartbeats 4000000 in
set_option maxRecDepth 100000 in
theorem case_duals : CaseOk MX5_duals MX6_duals [] := by
  sorry
set_option maxHeartbeats 4000000 in
set_option maxRecDepth 100000 in
theorem case_would (x y : Int32) : CaseOk MX5_would MX6_would [.int x, .int y] := by
  sorry
set_option maxHeartbeats 4000000 in
set_option maxRecDepth 100000 in
theorem case_ranked (x : Int32) : CaseOk MX5_ranked MX6_ranked [.int x] := by
  sorry
set_option maxHeartbeats 4000000 in
set_option maxRecDepth 100000 in
theorem case_show : CaseOk MX5_show MX6_show [] := by
  sorry
set_option maxHeartbeats 4000000 in
set_option maxRecDepth 100000 in
theorem case_tell (x y : Int32) : CaseOk MX5_tell MX6_tell [.int x, .int y] := by
  sorry
set_option maxHeartbeats 4000000 in
set_option maxRecDepth 100000 in
theorem case_sign (x : Int32) : CaseOk MX5_sign MX6_sign [.int x] := by
  sorry
set_option maxHeartbeats 4000000 in
set_option maxRecDepth 100000 in
theorem case_append (x : Int32) : CaseOk MX5_append MX6_append [.int x] := by
  sorry
set_option maxHeartbeats 4000000 in
set_option maxRecDepth 100000 in
theorem case_refusal (x : Int32) : CaseOk MX5_refusal MX6_refusal [.int x] := by
  sorry
set_option maxHeartbeats 4000000 in
set_option maxRecDepth 100000 in
theorem case_account (x : Int32) : CaseOk MX5_account MX6_account [.int x] := by
  sorry
set_option maxHeartbeats 4000000 in
set_option maxRecDepth 100000 in
theorem case_isWell : CaseOk MX5_isWell MX6_isWell [] := by
  sorry
set_option maxHeartbeats 4000000 in
set_option maxRecDepth 100000 in
theorem case_share : CaseOk MX5_share MX6_share [] := by
  sorry
set_option maxHeartbeats 4000000 in
set_option maxRecDepth 100000 in
theorem case_undo : CaseOk MX5_undo MX6_undo [] := by
  sorry
set_option maxHeartbeats 4000000 in
set_option maxRecDepth 100000 in
theorem case_save : CaseOk MX5_save MX6_save [] := by
  sorry
set_option maxHeartbeats 4000000 in
set_option maxRecDepth 100000 in
theorem case_restore : CaseOk MX5_restore MX6_restore [] := by
  sorry
