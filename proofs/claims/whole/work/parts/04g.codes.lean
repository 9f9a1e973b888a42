theorem db_dck_378_3 : db_dck code dbt_378_3 = true := by decide +kernel
