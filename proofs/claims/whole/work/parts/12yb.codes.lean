theorem db_dck_378_6_0 : db_dck code (List.take 40 dbt_378_6) = true := by decide +kernel
theorem db_dck_378_6_1 : db_dck code (List.take 40 (List.drop 40 dbt_378_6)) = true := by decide +kernel
theorem db_dck_378_6_2 : db_dck code (List.take 40 (List.drop 40 (List.drop 40 dbt_378_6))) = true := by decide +kernel
theorem db_dck_378_6_3 : db_dck code (List.take 40 (List.drop 40 (List.drop 40 (List.drop 40 dbt_378_6)))) = true := by decide +kernel
theorem db_dck_378_6_4 : db_dck code (List.drop 40 (List.drop 40 (List.drop 40 (List.drop 40 dbt_378_6)))) = true := by decide +kernel
theorem db_dck_378_6 : db_dck code dbt_378_6 = true := (db_dck_td 40 db_dck_378_6_0 (db_dck_td 40 db_dck_378_6_1 (db_dck_td 40 db_dck_378_6_2 (db_dck_td 40 db_dck_378_6_3 db_dck_378_6_4))))
