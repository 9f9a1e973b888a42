theorem db_dck_378_7_0 : db_dck code dbt_378_7 = true := by decide +kernel
theorem db_dck_378_7 : db_dck code dbt_378_7 = true := db_dck_378_7_0
theorem db_dck_378 : db_dck code dbt_378 = true := by
  unfold db_dck dbt_378
  simp only [List.all_append, Bool.and_eq_true]
  exact ⟨db_dck_378_0, db_dck_378_1, db_dck_378_2, db_dck_378_3, db_dck_378_4, db_dck_378_5, db_dck_378_6, db_dck_378_7⟩
