theorem db_dck_td {b : ByteArray} {tb : List (Nat × Instr × Option (List Nat))} (n : Nat) (h1 : db_dck b (tb.take n) = true) (h2 : db_dck b (tb.drop n) = true) : db_dck b tb = true := by
  unfold db_dck at h1 h2 ⊢
  have e := congrArg (fun q => q.all fun e => decide (decode b e.1 = .ok (e.2.1, db_len e.1 e.2.1))) (List.take_append_drop n tb)
  simp only [List.all_append, h1, h2, Bool.and_self] at e
  exact e.symm
theorem db_dck_378_5_0 : db_dck code (List.take 40 dbt_378_5) = true := by decide +kernel
theorem db_dck_378_5_1 : db_dck code (List.take 40 (List.drop 40 dbt_378_5)) = true := by decide +kernel
theorem db_dck_378_5_2 : db_dck code (List.take 40 (List.drop 40 (List.drop 40 dbt_378_5))) = true := by decide +kernel
theorem db_dck_378_5_3 : db_dck code (List.take 40 (List.drop 40 (List.drop 40 (List.drop 40 dbt_378_5)))) = true := by decide +kernel
theorem db_dck_378_5_4 : db_dck code (List.drop 40 (List.drop 40 (List.drop 40 (List.drop 40 dbt_378_5)))) = true := by decide +kernel
theorem db_dck_378_5 : db_dck code dbt_378_5 = true := (db_dck_td 40 db_dck_378_5_0 (db_dck_td 40 db_dck_378_5_1 (db_dck_td 40 db_dck_378_5_2 (db_dck_td 40 db_dck_378_5_3 db_dck_378_5_4))))
