theorem db_mck_378 : db_mck dbm_378 = true := by decide +kernel
theorem db_dck_378_0 : db_dck code dbt_378_0 = true := by decide +kernel
theorem db_dck_378_1 : db_dck code dbt_378_1 = true := by decide +kernel
theorem db_dck_378_2 : db_dck code dbt_378_2 = true := by decide +kernel
