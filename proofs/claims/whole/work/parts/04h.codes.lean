theorem db_dck_378_4 : db_dck code dbt_378_4 = true := by decide +kernel
